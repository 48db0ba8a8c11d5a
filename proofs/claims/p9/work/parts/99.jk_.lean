theorem sm_on2 {k : Nat} {v : Int} : ∀ {n : Nat}, k < n → sm n (fun i => if i = k then v else 0) = v
  | 0, h => absurd h (by omega)
  | n + 1, h => by
    show sm n (fun i => if i = k then v else 0) + (if n = k then v else 0) = v
    by_cases c : n = k
    · rw [if_pos c, sm_z (fun i hi => if_neg (by omega))]; omega
    · rw [sm_on2 (by omega), if_neg c]; omega
/-! The class's table, with the game it leaves. -/
/-- how many cards each has, while a table is read -/
def CRD (σ : xS) : Prop := ∀ p : Nat, p < 6 → σ 8 p = sm 13 (fun k => σ 7 (13 * p + k))
theorem CRD.eq {σ σ' : xS} (h : CRD σ) (e7 : σ' 7 = σ 7) (e8 : σ' 8 = σ 8) : CRD σ' := fun p hp => by rw [e7, e8]; exact h p hp
theorem CRD.fr {σ σ' : xS} {ts js : List Nat} (h : CRD σ) (f : Fr ts js σ σ') (t7 : 7 ∉ ts := by decide) (t8 : 8 ∉ ts := by decide) : CRD σ' := h.eq (f.1 7 (by decide) t7) (f.1 8 (by decide) t8)
theorem CRD.r {σ : xS} (h : CRD σ) (hT : TG σ) {p : Int} (hp : 0 ≤ p ∧ p ≤ 5) : 0 ≤ σ 8 p.toNat ∧ σ 8 p.toNat ≤ 52 := by
  rw [h p.toNat (by omega)]
  have h4 : ∀ k : Nat, k < 13 → 0 ≤ σ 7 (13 * p.toNat + k) ∧ σ 7 (13 * p.toNat + k) ≤ 4 := fun k hk => hT.1.2.1.h4 hT.1.2.2 (by omega) hk
  have a := sm_nn (n := 13) (g := fun k => σ 7 (13 * p.toNat + k)) (fun i hi => (h4 i hi).1)
  have b := sm_le (n := 13) (g := fun k => σ 7 (13 * p.toNat + k)) (g' := fun _ => (4 : Int)) (fun i hi => (h4 i hi).2)
  rw [sm_const] at b
  omega
theorem CRD.hand {σ σ' : xS} {p kind n : Int} (h : CRD σ) (hp : 0 ≤ p ∧ p ≤ 5) (hk : 0 ≤ kind ∧ kind ≤ 12) (e7 : σ' 7 = up (σ 7) (13 * p + kind).toNat (σ 7 (13 * p + kind).toNat + n)) (e8 : σ' 8 = up (σ 8) p.toNat (σ 8 p.toNat + n)) : CRD σ' := fun q hq => by
  rw [e7, e8, ixk hp hk]
  have d : ∀ k : Nat, k < 13 → up (σ 7) (13 * p.toNat + kind.toNat) (σ 7 (13 * p.toNat + kind.toNat) + n) (13 * q + k) = σ 7 (13 * q + k) + (if k = kind.toNat then (if q = p.toNat then n else 0) else 0) := fun k hk2 => by
    by_cases c : q = p.toNat
    · subst c
      by_cases c2 : k = kind.toNat
      · subst c2; rw [up_s, if_pos rfl, if_pos rfl]
      · rw [up_n (by omega), if_neg c2]; omega
    · rw [up_n (by omega), if_neg c]
      split <;> omega
  rw [sm_congr d, sm_add, sm_on2 (k := kind.toNat) (v := if q = p.toNat then n else 0) (by omega)]
  by_cases c : q = p.toNat
  · rw [c, up_s, if_pos rfl, h p.toNat (by omega)]
  · rw [up_n c, if_neg c, h q hq]; omega
/-- between two lines of a table -/
def TGC (σ : xS) : Prop := TG σ ∧ CRD σ
theorem TGC.fr {σ σ' : xS} {ts js : List Nat} (h : TGC σ) (hF : Fr ts js σ σ') (a1 : 1 ∉ ts) (a5 : 5 ∉ ts) (a7 : 7 ∉ ts) (a9 : 9 ∉ ts) (a8 : 8 ∉ ts := by decide) : TGC σ' := ⟨h.1.fr hF a1 a5 a7 a9, h.2.fr hF a7 a8⟩
