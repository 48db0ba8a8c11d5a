/-! Calls. xIV, xIS: a method of the same world (virtual, static). xMV, xMS: one whose world is a part of the caller's: its tag i is the caller's tag τ i. -/
def xIV (sh : xH) (ci : Nat) (E : xE) : xE := fun as σ Q => match as with
  | .inr (.inr (.inl t)) :: _ => (match sh t with
    | some (0, ci', _) => if ci' = ci then E as σ Q else False
    | _ => False)
  | _ => False
theorem xIV_e {sh : xH} {ci : Nat} {E : xE} {as : List xV} {σ : xS} {Q : Option xV → xS → Prop} (h : xIV sh ci E as σ Q) : ∃ t r codes, as = xvr t :: r ∧ sh t = some (0, ci, codes) ∧ E as σ Q := by
  unfold xIV at h
  split at h
  · split at h
    · split at h
      · rename_i hs hc; subst hc; exact ⟨_, _, _, rfl, hs, h⟩
      · exact h.elim
    · exact h.elim
  · exact h.elim
def xix : List Nat → Nat → Option Nat
  | [], _ => none
  | u :: τ, t => if u = t then some 0 else (xix τ t).map (· + 1)
def xdn (τ : List Nat) : xV → xV
  | .inr (.inr (.inl t)) => (match xix τ t with
    | some i => xvr i
    | none => xvu)
  | v => v
def xsel (τ : List Nat) (σ : xS) : xS := fun i => σ (τ.getD i 0)
def xbk (τ : List Nat) (σ σ' : xS) : xS := fun t => match xix τ t with
  | some i => σ' i
  | none => σ t
def xnr (r : Option xV) (P : Prop) : Prop := match r with
  | some (.inr (.inr _)) => False
  | _ => P
def xMm (τ : List Nat) (E : xE) : xE := fun as σ Q => E (as.map (xdn τ)) (xsel τ σ) (fun r σ' => xnr r (Q r (xbk τ σ σ')))
/-- every reference that goes along is the part's -/
def xAll (τ : List Nat) (as : List xV) : Prop := ∀ t, xvr t ∈ as → ∃ i, xix τ t = some i
def xallB (τ : List Nat) (as : List xV) : Bool := as.all (fun v => match v with
  | .inr (.inr (.inl t)) => (xix τ t).isSome
  | _ => true)
theorem xallB_e {τ : List Nat} {as : List xV} (h : xallB τ as = true) : xAll τ as := fun t ht => Option.isSome_iff_exists.mp (List.all_eq_true.mp h (xvr t) ht)
/-- a method of a part of the world: virtual, static -/
def xMV (sh : xH) (ci : Nat) (τ : List Nat) (E : xE) : xE := xIV sh ci (fun as σ Q => if xallB τ as = true then xMm τ E as σ Q else False)
def xMS (τ : List Nat) (E : xE) : xE := fun as σ Q => if xallB τ as = true then xMm τ E as σ Q else False
theorem xcell_eq {a : Nat → Nat} {y : Nat → ClassId} {ρ : Nat → Nat → Option Nat} {σ σ' : xS} {t : Nat} (h : σ' t = σ t) (e : Nat × Nat × List Nat) : xcell a y ρ σ' t e = xcell a y ρ σ t e := by
  match e with
  | (0, ci, codes) =>
    have : xfs a ρ σ' t codes = xfs a ρ σ t codes := by
      refine List.ext_getElem? (fun k => ?_)
      rw [xfs_at, xfs_at]
      cases codes[k]? with
      | none => rfl
      | some c =>
        match c with
        | 0 => simp [xfv, h]
        | 1 => simp [xfv, h]
        | 2 => simp [xfv, h]
        | 3 => rfl
        | c'' + 4 => rfl
    exact congrArg (fun l => (Sum.inr (ci, l) : va_E)) this
  | (k + 1, n, _) => simp [xcell, xcon, h]
def xre (τ : List Nat) : Nat × Nat × List Nat → Nat × Nat × List Nat
  | (0, ci, codes) => (0, ci, codes.map (fun c => match c with
    | c + 4 => τ.getD c 0 + 4
    | c => c))
  | q => q
/-- the part's shape is the caller's -/
def xSub (τ : List Nat) (N' : Nat) (sh' sh : xH) : Prop := τ.length = N' ∧ τ.Nodup ∧ (∀ i, i < N' → (sh' i).isSome = true) ∧ ∀ i e, sh' i = some e → i < N' ∧ sh (τ.getD i 0) = some (xre τ e)
theorem xix_e : ∀ {τ : List Nat} {t i : Nat}, xix τ t = some i → τ[i]? = some t := by
  intro τ
  induction τ with
  | nil => intro t i h; cases h
  | cons u τ ih =>
    intro t i h
    unfold xix at h
    by_cases hu : u = t
    · rw [if_pos hu] at h; cases h; simp [hu]
    · rw [if_neg hu] at h
      obtain ⟨j, h1, rfl⟩ := Option.map_eq_some_iff.mp h
      simpa using ih h1
theorem xix_of : ∀ {τ : List Nat} {t i : Nat}, τ.Nodup → τ[i]? = some t → xix τ t = some i := by
  intro τ
  induction τ with
  | nil => intro t i _ h; simp at h
  | cons u τ ih =>
    intro t i hn h
    unfold xix
    have hn2 := List.nodup_cons.mp hn
    match i, h with
    | 0, h =>
      obtain rfl : u = t := by simpa using h
      rw [if_pos rfl]
    | i + 1, h =>
      have h2 : τ[i]? = some t := by simpa using h
      have hne : ¬ u = t := fun e => hn2.1 (e ▸ List.mem_of_getElem? h2)
      rw [if_neg hne, ih hn2.2 h2]
      rfl
theorem xgetD {τ : List Nat} {i t : Nat} (h : τ[i]? = some t) : τ.getD i 0 = t := by
  rw [List.getD_eq_getElem?_getD, h]; rfl
theorem xcell_sub {a : Nat → Nat} {y : Nat → ClassId} {ρ : Nat → Nat → Option Nat} {σ : xS} {σ' : xS} {τ : List Nat} {i : Nat} (hσ : σ' i = σ (τ.getD i 0)) (e : Nat × Nat × List Nat) : xcell (fun i => a (τ.getD i 0)) y (fun i => ρ (τ.getD i 0)) σ' i e = xcell a y ρ σ (τ.getD i 0) (xre τ e) := by
  match e with
  | (0, ci, codes) =>
    have : xfs (fun i => a (τ.getD i 0)) (fun i => ρ (τ.getD i 0)) σ' i codes = xfs a ρ σ (τ.getD i 0) (codes.map (fun c => match c with
        | c + 4 => τ.getD c 0 + 4
        | c => c)) := by
      refine List.ext_getElem? (fun k => ?_)
      rw [xfs_at, xfs_at, List.getElem?_map]
      cases codes[k]? with
      | none => rfl
      | some c =>
        match c with
        | 0 => simp [xfv, hσ]
        | 1 => simp [xfv, hσ]
        | 2 => simp [xfv, hσ]
        | 3 => simp [xfv]
        | c + 4 => simp [xfv]
    exact congrArg (fun l => (Sum.inr (ci, l) : va_E)) this
  | (k + 1, n, _) => simp [xcell, xcon, xre, hσ]
theorem xdn_v {a : Nat → Nat} {τ : List Nat} {as : List xV} (h : xAll τ as) : (as.map (xdn τ)).map (xv (fun i => a (τ.getD i 0))) = as.map (xv a) := by
  rw [List.map_map]
  refine List.map_congr_left (fun v hv => ?_)
  match v, hv with
  | .inl z, _ => rfl
  | .inr (.inl z), _ => rfl
  | .inr (.inr (.inl t)), hv =>
    obtain ⟨i, hi⟩ := h t hv
    show xv _ (xdn τ (xvr t)) = .ref (a t)
    unfold xdn
    dsimp only
    rw [hi]
    show Value.ref (a (τ.getD i 0)) = _
    rw [xgetD (xix_e hi)]
  | .inr (.inr (.inr ())), _ => rfl
theorem xdn_g {τ : List Nat} {as : List xV} (h : ∀ v ∈ as, xg v) : ∀ v ∈ as.map (xdn τ), xg v := by
  intro v hv
  obtain ⟨w, hw, rfl⟩ := List.mem_map.mp hv
  have h1 := h w hw
  match w, h1 with
  | .inl z, h1 => exact h1
  | .inr (.inl z), h1 => exact h1
  | .inr (.inr (.inl t)), _ =>
    unfold xdn
    dsimp only
    split <;> exact trivial
  | .inr (.inr (.inr ())), _ => exact trivial
/-- worlds by tags -/
theorem xws_P {a : Nat → Nat} {y : Nat → ClassId} {ρ : Nat → Nat → Option Nat} {N : Nat} {sh : xH} {σ : xS} {D : va_G} {H : Heap} : va_P D vwCl (xws a y ρ N sh σ) H ↔ ∀ t e, t < N → sh t = some e → va_at D vwCl (a t, xcell a y ρ σ t e) H := by
  constructor
  · intro h t e ht hs
    obtain ⟨q, hq⟩ := List.getElem?_of_mem (l := xtags N sh) (List.mem_filter.mpr ⟨List.mem_range.mpr ht, by rw [hs]; rfl⟩)
    exact h q _ (xws_at hq hs)
  · intro h k q hk
    unfold xws at hk
    rw [List.getElem?_map] at hk
    cases ht : (xtags N sh)[k]? with
    | none => rw [ht] at hk; cases hk
    | some t =>
      have hm := List.mem_filter.mp (List.mem_of_getElem? ht)
      obtain ⟨e, hs⟩ := Option.isSome_iff_exists.mp hm.2
      rw [ht] at hk
      cases hk
      have := h t e (List.mem_range.mp hm.1) hs
      simpa [hs] using this
theorem xws_D {a : Nat → Nat} {y : Nat → ClassId} {ρ : Nat → Nat → Option Nat} {N : Nat} {sh : xH} {σ : xS} {A : Nat → Prop} : va_D A (xws a y ρ N sh σ) ↔ (∀ t u, t < N → u < N → (sh t).isSome = true → (sh u).isSome = true → a t = a u → t = u) ∧ ∀ t, t < N → (sh t).isSome = true → A (a t) := by
  constructor
  · intro h
    have mem : ∀ t, t < N → (sh t).isSome = true → ∃ q : Nat, (xtags N sh)[q]? = some t := fun t ht hs => List.getElem?_of_mem (List.mem_filter.mpr ⟨List.mem_range.mpr ht, hs⟩)
    refine ⟨fun t u ht hu hst hsu e => ?_, fun t ht hst => ?_⟩
    · obtain ⟨e1, hs1⟩ := Option.isSome_iff_exists.mp hst
      obtain ⟨e2, hs2⟩ := Option.isSome_iff_exists.mp hsu
      obtain ⟨q1, hq1⟩ := mem t ht hst
      obtain ⟨q2, hq2⟩ := mem u hu hsu
      have := h.1 q1 q2 _ _ (xws_at hq1 hs1) (xws_at hq2 hs2) e
      subst this
      exact Option.some.inj (hq1.symm.trans hq2)
    · obtain ⟨e1, hs1⟩ := Option.isSome_iff_exists.mp hst
      obtain ⟨q1, hq1⟩ := mem t ht hst
      exact h.2 q1 _ (xws_at hq1 hs1)
  · intro ⟨h1, h2⟩
    have key : ∀ (k : Nat) (q : Nat × va_E), (xws a y ρ N sh σ)[k]? = some q → ∃ t, (xtags N sh)[k]? = some t ∧ q.1 = a t ∧ t < N ∧ (sh t).isSome = true := by
      intro k q hk
      unfold xws at hk
      rw [List.getElem?_map] at hk
      cases ht : (xtags N sh)[k]? with
      | none => rw [ht] at hk; cases hk
      | some t =>
        have hm := List.mem_filter.mp (List.mem_of_getElem? ht)
        rw [ht] at hk
        cases hk
        exact ⟨t, rfl, rfl, List.mem_range.mp hm.1, hm.2⟩
    refine ⟨fun i j p q hi hj e => ?_, fun k q hk => ?_⟩
    · obtain ⟨t, a1, a2, a3, a4⟩ := key i p hi
      obtain ⟨u, b1, b2, b3, b4⟩ := key j q hj
      have : t = u := h1 t u a3 b3 a4 b4 (by rw [← a2, ← b2]; exact e)
      subst this
      obtain ⟨c1, c2⟩ := List.getElem?_eq_some_iff.mp a1
      obtain ⟨d1, d2⟩ := List.getElem?_eq_some_iff.mp b1
      exact (List.getElem_inj (xtags_nd N sh)).mp (c2.trans d2.symm)
    · obtain ⟨t, a1, a2, a3, a4⟩ := key k q hk
      rw [a2]; exact h2 t a3 a4
theorem xws_in {a : Nat → Nat} {y : Nat → ClassId} {ρ : Nat → Nat → Option Nat} {N : Nat} {sh : xH} {σ : xS} {sz q : Nat} (h : va_A (xws a y ρ N sh σ) sz q) : (∃ t e, t < N ∧ sh t = some e ∧ q = a t) ∨ sz ≤ q := by
  rcases h with ⟨k, e, hk⟩ | h
  · unfold xws at hk
    rw [List.getElem?_map] at hk
    cases ht : (xtags N sh)[k]? with
    | none => rw [ht] at hk; cases hk
    | some t =>
      have hm := List.mem_filter.mp (List.mem_of_getElem? ht)
      obtain ⟨e2, hs⟩ := Option.isSome_iff_exists.mp hm.2
      rw [ht] at hk
      cases hk
      exact Or.inl ⟨t, e2, List.mem_range.mp hm.1, hs, rfl⟩
  · exact Or.inr h
