/-! What the reference's readers leave as it was. -/
def KSx (σ0 σ : xS) : Prop := (σ 2 = σ0 2 ∧ σ 7 = σ0 7 ∧ σ 8 = σ0 8 ∧ σ 15 = σ0 15 ∧ σ 22 = σ0 22 ∧ σ 25 = σ0 25 ∧ σ 26 = σ0 26) ∧ σ 0 15 = σ0 0 15 ∧ σ 0 24 = σ0 0 24 ∧ σ 0 27 = σ0 0 27 ∧ σ 0 37 = σ0 0 37 ∧ σ 0 54 = σ0 0 54
theorem KSx.rf {σ : xS} : KSx σ σ := ⟨⟨rfl, rfl, rfl, rfl, rfl, rfl, rfl⟩, rfl, rfl, rfl, rfl, rfl⟩
def RKs (σ0 σ : xS) : Prop := RI σ ∧ σ 0 2 = σ0 0 2 ∧ σ 27 = σ0 27 ∧ XF σ0 σ ∧ KSx σ0 σ
theorem RKs.rk {σ0 σ : xS} (h : RKs σ0 σ) : RK σ0 σ := ⟨h.1, h.2.1, h.2.2.1, h.2.2.2.1⟩
theorem RKs.rf {σ : xS} (h : RI σ) : RKs σ σ := ⟨h, rfl, rfl, ⟨rfl, rfl, rfl⟩, KSx.rf⟩
theorem KSx.fr {ts js : List Nat} {σ0 σ σ' : xS} (h : KSx σ0 σ) (h2 : Fr ts js σ σ') (t2 : 2 ∉ ts) (t8 : 8 ∉ ts) (t25 : 25 ∉ ts) (b : 27 ∉ js) (c : 37 ∉ js) (t7 : 7 ∉ ts := by decide) (t15 : 15 ∉ ts := by decide) (t22 : 22 ∉ ts := by decide) (t26 : 26 ∉ ts := by decide) (j15 : 15 ∉ js := by decide) (j24 : 24 ∉ js := by decide) (j54 : 54 ∉ js := by decide) : KSx σ0 σ' := by
  obtain ⟨⟨a1, a2, a3, a4, a5, a6, a7⟩, b1, b2, b3, b4, b5⟩ := h
  exact ⟨⟨(h2.1 2 (by decide) t2).trans a1, (h2.1 7 (by decide) t7).trans a2, (h2.1 8 (by decide) t8).trans a3, (h2.1 15 (by decide) t15).trans a4, (h2.1 22 (by decide) t22).trans a5, (h2.1 25 (by decide) t25).trans a6, (h2.1 26 (by decide) t26).trans a7⟩, (h2.2 15 j15).trans b1, (h2.2 24 j24).trans b2, (h2.2 27 b).trans b3, (h2.2 37 c).trans b4, (h2.2 54 j54).trans b5⟩
theorem RKs.fr {ts js : List Nat} {σ0 σ σ' : xS} (h : RKs σ0 σ) (h2 : Fr ts js σ σ') (t2 : 2 ∉ ts) (t8 : 8 ∉ ts) (t25 : 25 ∉ ts) (t27 : 27 ∉ ts) (a : 2 ∉ js) (b : 27 ∉ js) (c : 37 ∉ js) (t1 : 1 ∉ ts := by decide) (t6 : 6 ∉ ts := by decide) (t5 : 5 ∉ ts := by decide) (t7 : 7 ∉ ts := by decide) (t15 : 15 ∉ ts := by decide) (t22 : 22 ∉ ts := by decide) (t26 : 26 ∉ ts := by decide) (j15 : 15 ∉ js := by decide) (j24 : 24 ∉ js := by decide) (j54 : 54 ∉ js := by decide) : RKs σ0 σ' := by
  obtain ⟨k1, k2, k3, k4⟩ := h.rk.fr h2 t2 t8 t25 t27 a b c t1 t6 t5
  exact ⟨k1, k2, k3, k4, h.2.2.2.2.fr h2 t2 t8 t25 b c t7 t15 t22 t26 j15 j24 j54⟩
theorem RKs.p0 {σ0 σ : xS} (h : RKs σ0 σ) {j : Nat} {v : Int} (h1 : j ≠ 2) (h2 : j ≠ 27) (h3 : j ≠ 37) (h4 : j ≠ 15 := by decide) (h5 : j ≠ 24 := by decide) (h6 : j ≠ 54 := by decide) : RKs σ0 (xput σ 0 j v) := by
  obtain ⟨k1, k2, k3, k4⟩ := h.rk.p0 (v := v) h1 h2 h3
  have f : Fr [] [j] σ (xput σ 0 j v) := (Fr.rf (ts := []) (js := [j])).p (j := j) (v := v) (by simp)
  exact ⟨k1, k2, k3, k4, h.2.2.2.2.fr f (by decide) (by decide) (by decide) (by simp; omega) (by simp; omega) (by decide) (by decide) (by decide) (by decide) (by simp; omega) (by simp; omega) (by simp; omega)⟩
/-- what a reader leaves is enough for all that holds between calls -/
theorem RKs.of {ts js : List Nat} {σ σ' : xS} (h : RI σ) (h2 : Fr ts js σ σ') (t2 : 2 ∉ ts := by decide) (t8 : 8 ∉ ts := by decide) (t25 : 25 ∉ ts := by decide) (t27 : 27 ∉ ts := by decide) (a : 2 ∉ js := by decide) (b : 27 ∉ js := by decide) (c : 37 ∉ js := by decide) (t1 : 1 ∉ ts := by decide) (t6 : 6 ∉ ts := by decide) (t5 : 5 ∉ ts := by decide) (t7 : 7 ∉ ts := by decide) (t15 : 15 ∉ ts := by decide) (t22 : 22 ∉ ts := by decide) (t26 : 26 ∉ ts := by decide) (j15 : 15 ∉ js := by decide) (j24 : 24 ∉ js := by decide) (j54 : 54 ∉ js := by decide) : RKs σ σ' := (RKs.rf h).fr h2 t2 t8 t25 t27 a b c t1 t6 t5 t7 t15 t22 t26 j15 j24 j54
