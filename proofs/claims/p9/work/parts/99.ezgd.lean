/-! TOKENS as functions of the text: b its bytes, n how many, m the most told, p where one begins. -/
noncomputable def nxt (b : Nat → Int) (n m p : Int) : Int × Int × Int × Int × Int := Classical.epsilon (fun t : Int × Int × Int × Int × Int => NXT b n m p t.1 t.2.1 t.2.2.1 t.2.2.2.1 t.2.2.2.2)
theorem nxt_e {b : Nat → Int} {n m p tok val wd pl p' : Int} (h : NXT b n m p tok val wd pl p') : tok = (nxt b n m p).1 ∧ (tok = 3 ∨ tok = 2 → val = (nxt b n m p).2.1) ∧ (tok = 1 → wd = (nxt b n m p).2.2.1) ∧ pl = (nxt b n m p).2.2.2.1 ∧ p' = (nxt b n m p).2.2.2.2 :=
  h.u (Classical.epsilon_spec (p := fun t : Int × Int × Int × Int × Int => NXT b n m p t.1 t.2.1 t.2.2.1 t.2.2.2.1 t.2.2.2.2) ⟨(tok, val, wd, pl, p'), h⟩)
/-- the words told here, in the class's order, by their codes: five bits a letter, eight -/
def R5 : List Int := [11843731, 542723566, 263620, 267312, 1279278, 609428876, 52595, 7657651, 463, 498, 1476, 14836, 81387, 12009198, 267652, 8435859, 273727652, 441972, 17171557]
def R8 : List Int := [461330343027, 123581014175598, 1751215716, 1751474544, 418346264942, 125779835448428, 1634954099, 444150998387, 28271, 28530, 6385252, 7237492, 1651470187, 461414299502, 1751477348, 448311223411, 114784635741540, 1836020596, 482854658917]
/-- a TOKEN as the class codes it: its own words 0 to 18, a sign's byte, 300 NAME, 301 NUMBER, 302 the end, 303 none -/
def cwd (w : Int) (l : List Int) (i : Int) : Int := match l with
  | [] => 300
  | x :: l => if x = w then i else cwd w l (i + 1)
def tct (k v w : Int) : Int := if k = 0 then 302 else if k = 2 then 301 else if k = 3 then v else if k = 1 then cwd w R8 0 else 303
noncomputable def tkc (b : Nat → Int) (n m p : Int) : Int := tct (nxt b n m p).1 (nxt b n m p).2.1 (nxt b n m p).2.2.1
noncomputable def tkv (b : Nat → Int) (n m p : Int) : Int := (nxt b n m p).2.1
noncomputable def tkw (b : Nat → Int) (n m p : Int) : Int := (nxt b n m p).2.2.1
noncomputable def tka (b : Nat → Int) (n m p : Int) : Int := (nxt b n m p).2.2.2.1
noncomputable def tkp (b : Nat → Int) (n m p : Int) : Int := (nxt b n m p).2.2.2.2
def WDS (ws : Nat → Int) : Prop := ∀ i : Nat, i < 19 → ws i = R5.getD i 0
theorem WPr_0 : WP (11843731) (461330343027) := ⟨fun j => ([107, 105, 110, 100, 115] : List Int).getD j 0, 0, 5, by decide, by decide, by unfold alS smC; decide, by decide +kernel, by decide +kernel⟩
theorem WPr_1 : WP (542723566) (123581014175598) := ⟨fun j => ([112, 101, 114, 115, 111, 110] : List Int).getD j 0, 0, 6, by decide, by decide, by unfold alS smC; decide, by decide +kernel, by decide +kernel⟩
theorem WPr_2 : WP (263620) (1751215716) := ⟨fun j => ([104, 97, 110, 100] : List Int).getD j 0, 0, 4, by decide, by decide, by unfold alS smC; decide, by decide +kernel, by decide +kernel⟩
theorem WPr_3 : WP (267312) (1751474544) := ⟨fun j => ([104, 101, 97, 112] : List Int).getD j 0, 0, 4, by decide, by decide, by unfold alS smC; decide, by decide +kernel, by decide +kernel⟩
theorem WPr_4 : WP (1279278) (418346264942) := ⟨fun j => ([97, 103, 97, 105, 110] : List Int).getD j 0, 0, 5, by decide, by decide, by unfold alS smC; decide, by decide +kernel, by decide +kernel⟩
theorem WPr_5 : WP (609428876) (125779835448428) := ⟨fun j => ([114, 101, 102, 105, 108, 108] : List Int).getD j 0, 0, 6, by decide, by decide, by unfold alS smC; decide, by decide +kernel, by decide +kernel⟩
theorem WPr_6 : WP (52595) (1634954099) := ⟨fun j => ([97, 115, 107, 115] : List Int).getD j 0, 0, 4, by decide, by decide, by unfold alS smC; decide, by decide +kernel, by decide +kernel⟩
theorem WPr_7 : WP (7657651) (444150998387) := ⟨fun j => ([103, 105, 118, 101, 115] : List Int).getD j 0, 0, 5, by decide, by decide, by unfold alS smC; decide, by decide +kernel, by decide +kernel⟩
theorem WPr_8 : WP (463) (28271) := ⟨fun j => ([110, 111] : List Int).getD j 0, 0, 2, by decide, by decide, by unfold alS smC; decide, by decide +kernel, by decide +kernel⟩
theorem WPr_9 : WP (498) (28530) := ⟨fun j => ([111, 114] : List Int).getD j 0, 0, 2, by decide, by decide, by unfold alS smC; decide, by decide +kernel, by decide +kernel⟩
theorem WPr_10 : WP (1476) (6385252) := ⟨fun j => ([97, 110, 100] : List Int).getD j 0, 0, 3, by decide, by decide, by unfold alS smC; decide, by decide +kernel, by decide +kernel⟩
theorem WPr_11 : WP (14836) (7237492) := ⟨fun j => ([110, 111, 116] : List Int).getD j 0, 0, 3, by decide, by decide, by unfold alS smC; decide, by decide +kernel, by decide +kernel⟩
theorem WPr_12 : WP (81387) (1651470187) := ⟨fun j => ([98, 111, 111, 107] : List Int).getD j 0, 0, 4, by decide, by decide, by unfold alS smC; decide, by decide +kernel, by decide +kernel⟩
theorem WPr_13 : WP (12009198) (461414299502) := ⟨fun j => ([107, 110, 111, 119, 110] : List Int).getD j 0, 0, 5, by decide, by decide, by unfold alS smC; decide, by decide +kernel, by decide +kernel⟩
theorem WPr_14 : WP (267652) (1751477348) := ⟨fun j => ([104, 101, 108, 100] : List Int).getD j 0, 0, 4, by decide, by decide, by unfold alS smC; decide, by decide +kernel, by decide +kernel⟩
theorem WPr_15 : WP (8435859) (448311223411) := ⟨fun j => ([104, 97, 110, 100, 115] : List Int).getD j 0, 0, 5, by decide, by decide, by unfold alS smC; decide, by decide +kernel, by decide +kernel⟩
theorem WPr_16 : WP (273727652) (114784635741540) := ⟨fun j => ([104, 101, 97, 112, 101, 100] : List Int).getD j 0, 0, 6, by decide, by decide, by unfold alS smC; decide, by decide +kernel, by decide +kernel⟩
theorem WPr_17 : WP (441972) (1836020596) := ⟨fun j => ([109, 111, 115, 116] : List Int).getD j 0, 0, 4, by decide, by decide, by unfold alS smC; decide, by decide +kernel, by decide +kernel⟩
theorem WPr_18 : WP (17171557) (482854658917) := ⟨fun j => ([112, 108, 97, 99, 101] : List Int).getD j 0, 0, 5, by decide, by decide, by unfold alS smC; decide, by decide +kernel, by decide +kernel⟩
theorem WPr : ∀ i : Nat, i < 19 → WP (R5.getD i 0) (R8.getD i 0) := by
  intro i hi
  match i, hi with
  | 0, _ => exact WPr_0
  | 1, _ => exact WPr_1
  | 2, _ => exact WPr_2
  | 3, _ => exact WPr_3
  | 4, _ => exact WPr_4
  | 5, _ => exact WPr_5
  | 6, _ => exact WPr_6
  | 7, _ => exact WPr_7
  | 8, _ => exact WPr_8
  | 9, _ => exact WPr_9
  | 10, _ => exact WPr_10
  | 11, _ => exact WPr_11
  | 12, _ => exact WPr_12
  | 13, _ => exact WPr_13
  | 14, _ => exact WPr_14
  | 15, _ => exact WPr_15
  | 16, _ => exact WPr_16
  | 17, _ => exact WPr_17
  | 18, _ => exact WPr_18
  | i + 19, hi => exact absurd hi (by omega)
theorem cwd_at : ∀ i : Nat, i < 19 → cwd (R8.getD i 0) R8 0 = i := by
  intro i hi
  match i, hi with
  | 0, _ => decide +kernel
  | 1, _ => decide +kernel
  | 2, _ => decide +kernel
  | 3, _ => decide +kernel
  | 4, _ => decide +kernel
  | 5, _ => decide +kernel
  | 6, _ => decide +kernel
  | 7, _ => decide +kernel
  | 8, _ => decide +kernel
  | 9, _ => decide +kernel
  | 10, _ => decide +kernel
  | 11, _ => decide +kernel
  | 12, _ => decide +kernel
  | 13, _ => decide +kernel
  | 14, _ => decide +kernel
  | 15, _ => decide +kernel
  | 16, _ => decide +kernel
  | 17, _ => decide +kernel
  | 18, _ => decide +kernel
  | i + 19, hi => exact absurd hi (by omega)
theorem cwd_no {w : Int} : ∀ (l : List Int) (i : Int), (∀ x ∈ l, ¬ x = w) → cwd w l i = 300 := by
  intro l
  induction l with
  | nil => intro _ _; rfl
  | cons x l ih =>
    intro i h
    unfold cwd
    rw [if_neg (h x List.mem_cons_self)]
    exact ih (i + 1) (fun y hy => h y (List.mem_cons_of_mem _ hy))
theorem cwd_in {w : Int} : ∀ (l : List Int) (i : Int), (∃ j : Nat, j < l.length ∧ cwd w l i = i + j ∧ l.getD j 0 = w) ∨ (cwd w l i = 300 ∧ ∀ x ∈ l, ¬ x = w) := by
  intro l
  induction l with
  | nil => intro i; exact Or.inr ⟨rfl, fun x hx => by cases hx⟩
  | cons x l ih =>
    intro i
    unfold cwd
    by_cases e : x = w
    · rw [if_pos e]
      exact Or.inl ⟨0, Nat.zero_lt_succ _, by omega, e⟩
    · rw [if_neg e]
      rcases ih (i + 1) with ⟨j, h1, h2, h3⟩ | ⟨h1, h2⟩
      · exact Or.inl ⟨j + 1, Nat.succ_lt_succ h1, by rw [h2]; omega, h3⟩
      · exact Or.inr ⟨h1, fun y hy => (List.mem_cons.mp hy).elim (fun h => h ▸ e) (h2 y)⟩
theorem R8_mem {x : Int} (h : x ∈ R8) : ∃ i : Nat, i < 19 ∧ R8.getD i 0 = x := by
  obtain ⟨i, h1, h2⟩ := List.mem_iff_getElem.mp h
  exact ⟨i, h1, by rw [List.getD_eq_getElem?_getD, List.getElem?_eq_getElem h1]; exact h2⟩
/-- the class's TOKEN is the text's -/
theorem TKC.ct {ws : Nat → Int} {tok val wd token number word : Int} (h : TKC ws tok val wd token number word) (hws : WDS ws) : token = tct tok val wd := by
  obtain ⟨h1, h0, h4, h3, h2, hw⟩ := h
  unfold tct
  by_cases e0 : tok = 0
  · rw [if_pos e0]; exact h0 e0
  · rw [if_neg e0]
    by_cases e2 : tok = 2
    · rw [if_pos e2]; exact (h2 e2).1
    · rw [if_neg e2]
      by_cases e3 : tok = 3
      · rw [if_pos e3]; exact (h3 e3).1
      · rw [if_neg e3]
        by_cases e1 : tok = 1
        · rw [if_pos e1]
          obtain ⟨a, b⟩ := hw e1
          rcases a with ⟨w, g1, g2, g3, g4⟩ | ⟨g1, g2⟩
          · have g5 : R5.getD w 0 = word := by rw [← hws w g1]; exact g3
            have g6 := (b.i (WPr w g1)).mp g5.symm
            rw [g6, cwd_at w g1]; exact g2
          · rw [g1, cwd_no R8 0 (fun x hx hxw => ?_)]
            obtain ⟨i, f1, f2⟩ := R8_mem hx
            have f3 := (b.i (WPr i f1)).mpr (by rw [f2, hxw])
            exact g2 i f1 (by rw [hws i f1]; exact f3.symm)
        · rw [if_neg e1]; exact h4 (by omega)
/-- one of the words: told by its code -/
theorem tct_w {k v w : Int} {j : Nat} (hj : j < 19) (hk : 0 ≤ k ∧ k ≤ 4) (hs : k = 3 → sgC v) : tct k v w = j ↔ (k = 1 ∧ w = R8.getD j 0) := by
  unfold tct
  refine ⟨fun h => ?_, fun h => ?_⟩
  · by_cases e0 : k = 0
    · rw [if_pos e0] at h; omega
    · rw [if_neg e0] at h
      by_cases e2 : k = 2
      · rw [if_pos e2] at h; omega
      · rw [if_neg e2] at h
        by_cases e3 : k = 3
        · rw [if_pos e3] at h
          have := hs e3
          unfold sgC at this
          omega
        · rw [if_neg e3] at h
          by_cases e1 : k = 1
          · rw [if_pos e1] at h
            refine ⟨e1, ?_⟩
            rcases cwd_in (w := w) R8 0 with ⟨i, h1, h2, h3⟩ | ⟨h1, h2⟩
            · rw [← h3, show j = i by omega]
            · omega
          · rw [if_neg e1] at h; omega
  · rw [if_neg (by omega), if_neg (by omega), if_neg (by omega), if_pos h.1, h.2]
    exact cwd_at j hj
theorem tct_r {k v w : Int} (hk : 0 ≤ k ∧ k ≤ 4) (hs : k = 3 → sgC v) : (k = 0 ∧ tct k v w = 302) ∨ (k = 4 ∧ tct k v w = 303) ∨ (k = 3 ∧ tct k v w = v ∧ (v = 59 ∨ v = 40 ∨ v = 41 ∨ (60 ≤ v ∧ v ≤ 62))) ∨ (k = 2 ∧ tct k v w = 301) ∨ (k = 1 ∧ ((0 ≤ tct k v w ∧ tct k v w < 19) ∨ tct k v w = 300)) := by
  unfold tct
  by_cases e0 : k = 0
  · rw [if_pos e0]; omega
  · rw [if_neg e0]
    by_cases e2 : k = 2
    · rw [if_pos e2]; omega
    · rw [if_neg e2]
      by_cases e3 : k = 3
      · rw [if_pos e3]
        have := hs e3
        unfold sgC at this
        omega
      · rw [if_neg e3]
        by_cases e1 : k = 1
        · rw [if_pos e1]
          rcases cwd_in (w := w) R8 0 with ⟨i, h1, h2, h3⟩ | ⟨h1, h2⟩
          · have h1 : i < 19 := h1
            omega
          · omega
        · rw [if_neg e1]; omega
theorem NXT.rg {b : Nat → Int} {n m p tok val wd pl p' : Int} (h : NXT b n m p tok val wd pl p') : (0 ≤ tok ∧ tok ≤ 4) ∧ (tok = 3 → sgC val) ∧ (tok = 2 → 0 ≤ val ∧ val < 1000) := by
  obtain ⟨q, hq, h⟩ := h
  rcases h with ⟨a1, a2, a3, a4⟩ | ⟨a1, a2, h⟩
  · exact ⟨by omega, fun h => by omega, fun h => by omega⟩
  · rcases h with ⟨c1, c2, c3⟩ | ⟨c1, c2, c3, h⟩ | ⟨c1, k, c2, c3, c4, h⟩
    · exact ⟨by omega, fun h => by omega, fun h => by omega⟩
    · rcases h with ⟨e1, e2, e3⟩ | ⟨e1, e2⟩
      · exact ⟨by omega, fun _ => by rw [e3]; exact e1, fun h => by omega⟩
      · exact ⟨by omega, fun h => by omega, fun h => by omega⟩
    · rcases h with ⟨e1, e2, e3, e4⟩ | ⟨e1, e2, e3, e4⟩ | ⟨e1, e2, e3⟩
      · exact ⟨by omega, fun h => by omega, fun h => by omega⟩
      · exact ⟨by omega, fun h => by omega, fun _ => by rw [e4]; exact D10lt e2 e1⟩
      · exact ⟨by omega, fun h => by omega, fun h => by omega⟩
/-- the class's Reader stands at the TOKEN that begins at p -/
def RCs (σ : xS) (b : Nat → Int) (n m p : Int) : Prop := σ 0 5 = tkc b n m p ∧ (tkc b n m p = 301 → σ 0 7 = tkv b n m p ∧ 0 ≤ tkv b n m p ∧ tkv b n m p < 1000) ∧ (tkc b n m p = 300 → WP (σ 0 8) (tkw b n m p)) ∧ σ 0 6 = tka b n m p ∧ σ 0 4 = tkp b n m p
theorem NXC.rc {σ : xS} {b ws : Nat → Int} {n m p : Int} (h : NXC b ws n m p (σ 0 5) (σ 0 6) (σ 0 7) (σ 0 8) (σ 0 4)) (hws : WDS ws) : RCs σ b n m p := by
  obtain ⟨tok, val, wd, hN, hT⟩ := h
  obtain ⟨e1, e2, e3, e4, e5⟩ := nxt_e hN
  obtain ⟨r1, r2, r3⟩ := hN.rg
  have hc : tkc b n m p = tct tok val wd := by
    unfold tkc
    rw [← e1]
    unfold tct
    by_cases z0 : tok = 0
    · rw [if_pos z0, if_pos z0]
    · rw [if_neg z0, if_neg z0]
      by_cases z2 : tok = 2
      · rw [if_pos z2, if_pos z2]
      · rw [if_neg z2, if_neg z2]
        by_cases z3 : tok = 3
        · rw [if_pos z3, if_pos z3]; exact (e2 (Or.inl z3)).symm
        · rw [if_neg z3, if_neg z3]
          by_cases z1 : tok = 1
          · rw [if_pos z1, if_pos z1, e3 z1]
          · rw [if_neg z1, if_neg z1]
  have hr := tct_r (k := tok) (v := val) (w := wd) r1 r2
  refine ⟨by rw [hc]; exact hT.ct hws, fun h => ?_, fun h => ?_, e4, e5⟩
  · have z2 : tok = 2 := by rw [hc] at h; omega
    obtain ⟨f1, f2, f3⟩ := hT.2.2.2.2.1 z2
    have f4 : val = tkv b n m p := e2 (Or.inr z2)
    rw [← f4]; exact ⟨f2, f3⟩
  · have z1 : tok = 1 := by rw [hc] at h; omega
    have f4 : wd = tkw b n m p := e3 z1
    rw [← f4]; exact (hT.2.2.2.2.2 z1).2

