/-! the words that the rows use, each by its place in the tables; printed by wip/p2/genx.py -/
theorem q_4_83 : Cond.methodLink RX4 97 yJ7_fill_bad5a ∈ gw := gw_4 83 (by decide +kernel) rfl
theorem q_4_84 : Cond.static yJ7_fill_bad5a ∈ gw := gw_4 84 (by decide +kernel) rfl
theorem q_4_85 : Cond.code yJ7_fill_bad5a cJ7_fill_bad5a 6 none ∈ gw := gw_4 85 (by decide +kernel) rfl
theorem q_4_86 : Cond.methodLink RJ7 13 yJ7_rangeCheck_23922 ∈ gw := gw_4 86 (by decide +kernel) rfl
theorem q_4_87 : Cond.static yJ7_rangeCheck_23922 ∈ gw := gw_4 87 (by decide +kernel) rfl
theorem q_4_88 : Cond.code yJ7_rangeCheck_23922 cJ7_rangeCheck_23922 3 none ∈ gw := gw_4 88 (by decide +kernel) rfl
def shZ : xH := fun _ => none
def tJ7_rc : List (Nat × Bool × List xI) := [(0, true, [(0, .iload_n 1, 1), (1, .iload_n 2, 1), (2, .if_icmp .le 44, 3), (5, .nop, 0)]), (46, false, [(46, .iload_n 1, 1), (47, .ifCond .ge 12, 3), (50, .nop, 0)]), (59, false, [(59, .iload_n 2, 1), (60, .iload_n 0, 1), (61, .if_icmp .le 12, 3), (64, .nop, 0)]), (73, false, [(73, .return_, 1)])]
def kRC : xC := (shZ, fun _ => none, fun _ => none, fun _ => none, tJ7_rc, 0, 3)
theorem mRC (l : Launch) (D : va_G) (yv : Nat → ClassId) : xMt l D yv yJ7_rangeCheck_23922 cJ7_rangeCheck_23922 3 none 0 0 shZ (xT kRC) :=
  xT_met (C := kRC) (by decide +kernel) ⟨(fun _ _ => rfl), (fun t ci codes hs => by cases hs), (fun t k m r hs => by cases hs), (fun i ci j h => by cases h), ⟨(fun i z h => by cases h), (fun i z h => by cases h)⟩, by decide +kernel⟩ rfl (fun v i n E h => by cases h)
theorem s_rc {σ : xS} {n a b : Int} {Q : Option xV → xS → Prop} (h : 0 ≤ a ∧ a ≤ b ∧ b ≤ n) (hQ : Q none σ) : xT kRC [xvi n, xvi a, xvi b] σ Q := by
  refine ⟨Nat.le_of_ble_eq_true rfl, fun X hX => ?_⟩
  show X 0 [xvi n, xvi a, xvi b] σ
  refine hX 400 0 _ _ ?_
  refine And.intro (fun c => ?_) (fun c => ?_)
  · refine And.intro (fun c2 => ?_) (fun c2 => ?_)
    · refine And.intro (fun c3 => ?_) (fun c3 => ?_)
      · exact And.intro rfl (And.intro rfl hQ)
      · exfalso; omega
    · exfalso; omega
  · exfalso; omega
def shFL (n : Nat) : xH := fun t => match t with
  | 0 => some (3, n, [])
  | _ => none
theorem fiFL {n : Nat} : xfin 1 (shFL n) := fun t ht => by
  match t, ht with
  | t + 1, _ => rfl
def tJ7_fillL : List (Nat × Bool × List xI) := [(0, true, [(0, .aload_n 0, 1), (1, .arraylength, 1), (2, .iload_n 1, 1), (3, .iload_n 2, 1), (4, .invokestatic 13, 3), (7, .iload_n 1, 1), (8, .istore 5, 2), (10, .nop, 0)]), (10, true, [(10, .iload 5, 2), (12, .iload_n 2, 1), (13, .if_icmp .ge 14, 3), (16, .aload_n 0, 1), (17, .iload 5, 2), (19, .lload_n 3, 1), (20, .lastore, 1), (21, .iinc 5 1, 3), (24, .goto (-14), 3)]), (27, false, [(27, .return_, 1)])]
def eJ7_fillL : List (Bool × Nat × Nat × xE) := [(false, 13, 3, xMS [] (xT kRC))]
def kFL (n : Nat) : xC := (shFL n, fun _ => none, fun _ => none, xenv eJ7_fillL, tJ7_fillL, 0, 6)
theorem okFillL : xokT cJ7_fill_bad5a tJ7_fillL = true := by decide +kernel
theorem mFL (l : Launch) (D : va_G) (yv : Nat → ClassId) {n : Nat} (hn : n < 2147483648) : xMt l D yv yJ7_fill_bad5a cJ7_fill_bad5a 6 none 1 1 (shFL n) (xT (kFL n)) := by
  refine xT_met (C := kFL n) (by decide +kernel) ⟨fiFL, ?_, ?_, (fun i ci j h => by cases h), ⟨(fun i z h => by cases h), (fun i z h => by cases h)⟩, okFillL⟩ rfl (xenv_ok (L := eJ7_fillL) ⟨xCk_MS (n := 3) (N' := 0) (τ := []) (sh' := shZ) (mRC l D yv) ⟨rfl, by simp, (fun i hi => by omega), (fun i e he => by cases he)⟩ q_4_86 q_4_87 q_1_4 q_4_88 (by decide +kernel) (by decide) fiFL, trivial⟩)
  · intro t ci codes hs
    match t, hs with
    | 0, hs => cases hs
    | t + 1, hs => cases hs
  · intro t k m r hs
    match t, hs with
    | 0, hs => cases hs; exact hn
    | t + 1, hs => cases hs
def xfl2 (σ : xS) (t : Nat) (a b v : Int) : xS := fun u j => if u = t then (if a ≤ (j : Int) ∧ (j : Int) < b then v else σ t j) else σ u j
theorem s_fillL {n : Nat} {σ : xS} {a b v : Int} {Q : Option xV → xS → Prop} (hn : n < 2147483648) (h : 0 ≤ a ∧ a ≤ b ∧ b ≤ n) (hQ : Q none (xfl2 σ 0 a b v)) : xT (kFL n) [xvr 0, xvi a, xvi b, xvl v] σ Q := by
  refine ⟨Nat.le_of_ble_eq_true rfl, fun X hX => ?_⟩
  show X 0 [xvr 0, xvi a, xvi b, xvl v, xvu, xvu] σ
  refine hX 400 0 _ _ ?_
  refine And.intro (by decide) ?_
  refine xMSp (τ := []) (E := xT kRC) (r := [xvi n, xvi a, xvi b]) (σ := σ) rfl xbk_sel (fun Q1 hQ1 => s_rc (σ := xsel [] σ) h (hQ1 _ ?_))
  refine And.intro (Nat.le_of_ble_eq_true rfl) ?_
  have lp : ∀ (m : Nat) (i : Int) (s1 : xS), (b - i).toNat = m → (a ≤ i ∧ i ≤ b) → (∀ u j, s1 u j = if u = 0 ∧ a ≤ (j : Int) ∧ (j : Int) < i then v else σ u j) → X 10 [xvr 0, xvi a, xvi b, xvl v, xvu, xvi i] s1 := by
    intro m
    induction m using Nat.strongRecOn with
    | _ m ih =>
      intro i s1 hm hi hs
      refine hX 400 10 _ _ ?_
      refine And.intro (fun c => ?_) (fun c => ?_)
      · refine And.intro rfl (And.intro rfl ?_)
        have e : s1 = xfl2 σ 0 a b v := by
          funext u j
          rw [hs]
          unfold xfl2
          by_cases hu : u = 0
          · subst hu
            rw [if_pos rfl]
            by_cases hj : a ≤ (j : Int) ∧ (j : Int) < b
            · rw [if_pos ⟨rfl, hj.1, by omega⟩, if_pos hj]
            · rw [if_neg (fun h => hj ⟨h.2.1, by have := h.2.2; omega⟩), if_neg hj]
          · rw [if_neg (fun h => hu h.1), if_neg hu]
        rw [e]; exact hQ
      · refine And.intro rfl (And.intro ⟨by omega, by omega⟩ ?_)
        intro z t e l h9
        have w : t = 0 := by omega
        refine ih _ (show (b - z).toNat < m from by omega) z _ rfl (by omega) (fun u j => ?_)
        show xput s1 0 i.toNat v u j = _
        unfold xput
        by_cases hu : u = 0
        · subst hu
          rw [if_pos rfl]
          by_cases hj : j = i.toNat
          · rw [if_pos hj, if_pos ⟨rfl, by omega, by omega⟩]
          · rw [if_neg hj, hs]
            by_cases c2 : a ≤ (j : Int) ∧ (j : Int) < i
            · rw [if_pos ⟨rfl, c2.1, c2.2⟩, if_pos ⟨rfl, c2.1, by omega⟩]
            · rw [if_neg (fun h => c2 h.2), if_neg (fun h => c2 ⟨h.2.1, by have := h.2.2; omega⟩)]
        · rw [if_neg hu, hs, if_neg (fun h => hu h.1), if_neg (fun h => hu h.1)]
  exact lp _ a σ rfl (by omega) (fun u j => by rw [if_neg (fun h => by have := h.2; omega)])
def xFillL (sh : xH) : xE := fun as σ Q => match as with
  | [.inr (.inr (.inl t)), .inl a, .inl b, .inr (.inl v)] => (match sh t with
    | some (3, n, []) => n < 2147483648 ∧ (0 ≤ a ∧ a ≤ b ∧ b ≤ n) ∧ Q none (xfl2 σ t a b v)
    | _ => False)
  | _ => False
theorem xCk_fillL {l : Launch} {D : va_G} {yv : Nat → ClassId} {own : String} {cc : ByteArray} {N i : Nat} {sh : xH} (h1 : Cond.methodLink own i yJ7_fill_bad5a ∈ gw) (h2 : Cond.static yJ7_fill_bad5a ∈ gw) (h4 : Cond.initialized RJ7 ∈ gw) (h5 : Cond.code yJ7_fill_bad5a cJ7_fill_bad5a 6 none ∈ gw) (hN : xfin N sh) : xCk l D yv own cc 2 N sh false i 4 (xFillL sh) := by
  refine xCk.mono (fun as σ K hE => ?_)
  match as, hE with
  | [.inr (.inr (.inl t)), .inl a, .inl b, .inr (.inl v)], hE =>
    have hE2 : ∃ n, sh t = some (3, n, []) ∧ n < 2147483648 ∧ (0 ≤ a ∧ a ≤ b ∧ b ≤ n) ∧ K none (xfl2 σ t a b v) := by
      unfold xFillL at hE
      dsimp only at hE
      split at hE
      · rename_i n hs; exact ⟨n, hs, hE⟩
      · exact hE.elim
    obtain ⟨n, hs, hn, hr, hQ⟩ := hE2
    refine ⟨xMS [t] (xT (kFL n)), ?_, xCk_MS (n := 4) (N' := 1) (sh' := shFL n) (mFL l D yv hn) ⟨rfl, by simp, ?_, ?_⟩ h1 h2 h4 h5 (by decide +kernel) (by decide) hN⟩
    · have e1 : xallB [t] [xvr t, xvi a, xvi b, xvl v] = true := by simp [xallB, xix]
      unfold xMS
      rw [if_pos e1]
      have e2 : [xvr t, xvi a, xvi b, xvl v].map (xdn [t]) = [xvr 0, xvi a, xvi b, xvl v] := by simp [xdn, xix]
      unfold xMm
      rw [e2]
      refine s_fillL hn hr ?_
      show K none (xbk [t] σ (xfl2 (xsel [t] σ) 0 a b v))
      have e3 : xbk [t] σ (xfl2 (xsel [t] σ) 0 a b v) = xfl2 σ t a b v := by
        funext u
        unfold xbk
        by_cases hu : t = u
        · subst hu
          simp only [xix, if_pos]
          funext j
          simp [xfl2, xsel]
        · simp only [xix, if_neg hu, Option.map_none]
          funext j
          unfold xfl2
          rw [if_neg (fun h => hu h.symm)]
      rw [e3]; exact hQ
    · intro i hi
      match i, hi with
      | 0, _ => rfl
    · intro i e he
      match i, he with
      | 0, he => cases he; exact ⟨by omega, hs⟩
