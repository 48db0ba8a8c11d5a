/-! The class: parts of worlds by lists; calls of the library's own methods. -/
def xsubB (τ : List Nat) (l' l : List (Nat × Nat × List Nat)) : Bool := decide (τ.length = l'.length) && (decide τ.Nodup && (List.range l'.length).all (fun i => decide (l[τ.getD i 0]? = (l'[i]?).map (xre τ))))
theorem xsubB_ok {τ : List Nat} {l' l : List (Nat × Nat × List Nat)} (h : xsubB τ l' l = true) : xSub τ l'.length (fun t => l'[t]?) (fun t => l[t]?) := by
  unfold xsubB at h
  simp only [Bool.and_eq_true, decide_eq_true_eq] at h
  obtain ⟨h1, h2, h3⟩ := h
  refine ⟨h1, h2, fun i hi => by simp [hi], fun i e he => ?_⟩
  have hi : i < l'.length := (List.getElem?_eq_some_iff.mp he).1
  refine ⟨hi, ?_⟩
  have h4 := of_decide_eq_true (List.all_eq_true.mp h3 i (List.mem_range.mpr hi))
  have he2 : l'[i]? = some e := he
  show l[τ.getD i 0]? = _
  rw [h4, he2]; rfl
theorem xCk.mono {l : Launch} {D : va_G} {yv : Nat → ClassId} {own : String} {cc : ByteArray} {d N i n : Nat} {sh : xH} {v : Bool} {E : xE} (h : ∀ as σ K, E as σ K → ∃ E' : xE, E' as σ K ∧ xCk l D yv own cc d N sh v i n E') : xCk l D yv own cc d N sh v i n E := by
  intro p e R s m args below meth c a ρ A nL Qm hx hb hml hown hg hK hA hR1 hR2 kz hk1 hk2 pc L rest as σ K hdec hE
  obtain ⟨E', h1, h2⟩ := h as σ K hE
  exact h2 p e R s m args below meth c a ρ A nL Qm hx hb hml hown hg hK hA hR1 hR2 kz hk1 hk2 pc L rest as σ K hdec h1
/-- a row's places below n are v -/
def xfl (σ : xS) (t n : Nat) (v : Int) : xS := fun u j => if u = t then (if j < n then v else σ t j) else σ u j
def xFill (sh : xH) : xE := fun as σ Q => match as with
  | [.inr (.inr (.inl t)), .inl v] => (match sh t with
    | some (2, n, []) => n < 2147483648 ∧ Q none (xfl σ t n v)
    | _ => False)
  | _ => False
def shF (n : Nat) : xH := fun t => match t with
  | 0 => some (2, n, [])
  | _ => none
theorem fiF {n : Nat} : xfin 1 (shF n) := fun t ht => by
  match t, ht with
  | t + 1, _ => rfl
def tJ7_fillI : List (Nat × Bool × List xI) := [(0, true, [(0, .iconst 0, 1), (1, .istore_n 2, 1), (2, .aload_n 0, 1), (3, .arraylength, 1), (4, .istore_n 3, 1), (5, .nop, 0)]), (5, true, [(5, .iload_n 2, 1), (6, .iload_n 3, 1), (7, .if_icmp .ge 13, 3), (10, .aload_n 0, 1), (11, .iload_n 2, 1), (12, .iload_n 1, 1), (13, .iastore, 1), (14, .iinc 2 1, 3), (17, .goto (-12), 3)]), (20, false, [(20, .return_, 1)])]
theorem okFill : xokT cJ7_fill_53178 tJ7_fillI = true := by decide +kernel
def kF (n : Nat) : xC := (shF n, fun _ => none, fun _ => none, fun _ => none, tJ7_fillI, 0, 4)
theorem mF (l : Launch) (D : va_G) (yv : Nat → ClassId) {n : Nat} (hn : n < 2147483648) : xMt l D yv yJ7_fill_53178 cJ7_fill_53178 4 none 0 1 (shF n) (xT (kF n)) := by
  refine xT_met (C := kF n) (by decide +kernel) ⟨fiF, ?_, ?_, (fun i ci j h => by cases h), ⟨(fun i z h => by cases h), (fun i z h => by cases h)⟩, okFill⟩ rfl (fun v i n E h => by cases h)
  · intro t ci codes hs
    match t, hs with
    | 0, hs => cases hs
    | t + 1, hs => cases hs
  · intro t k m r hs
    match t, hs with
    | 0, hs => cases hs; exact hn
    | t + 1, hs => cases hs
theorem s_fillI {n : Nat} (hn : n < 2147483648) {σ : xS} {v : Int} {Q : Option xV → xS → Prop} (hQ : Q none (xfl σ 0 n v)) : xT (kF n) [xvr 0, xvi v] σ Q := by
  refine ⟨Nat.le_of_ble_eq_true rfl, fun X hX => ?_⟩
  show X 0 [xvr 0, xvi v, xvu, xvu] σ
  refine hX 400 0 _ _ ?_
  refine And.intro (Nat.le_of_ble_eq_true rfl) ?_
  refine And.intro (by decide) ?_
  refine And.intro (Nat.le_of_ble_eq_true rfl) ?_
  have lp : ∀ (m : Nat) (i : Int) (s1 : xS), ((n : Int) - i).toNat = m → (0 ≤ i ∧ i ≤ n) → (∀ u j, s1 u j = if u = 0 ∧ (j : Int) < i then v else σ u j) → X 5 [xvr 0, xvi v, xvi i, xvi n] s1 := by
    intro m
    induction m using Nat.strongRecOn with
    | _ m ih =>
      intro i s1 hm hi hs
      refine hX 400 5 _ _ ?_
      refine And.intro (fun c => ?_) (fun c => ?_)
      · refine And.intro rfl (And.intro rfl ?_)
        have e : s1 = xfl σ 0 n v := by
          funext u j
          rw [hs]
          unfold xfl
          by_cases hu : u = 0
          · subst hu
            by_cases hj : j < n
            · rw [if_pos ⟨rfl, by omega⟩, if_pos rfl, if_pos hj]
            · rw [if_neg (fun h => by have := h.2; omega), if_pos rfl, if_neg hj]
          · rw [if_neg (fun h => hu h.1), if_neg hu]
        rw [e]; exact hQ
      · refine And.intro rfl (And.intro ⟨by omega, by omega⟩ ?_)
        intro z t e l h
        have w : t = 0 := by omega
        refine ih _ (show ((n : Int) - z).toNat < m from by omega) z _ rfl (by omega) (fun u j => ?_)
        show xput s1 0 i.toNat v u j = _
        unfold xput
        by_cases hu : u = 0
        · subst hu
          rw [if_pos rfl]
          by_cases hj : j = i.toNat
          · rw [if_pos hj, if_pos ⟨rfl, by omega⟩]
          · rw [if_neg hj, hs]
            by_cases c2 : (j : Int) < i
            · rw [if_pos ⟨rfl, c2⟩, if_pos ⟨rfl, by omega⟩]
            · rw [if_neg (fun h => c2 h.2), if_neg (fun h => by have := h.2; omega)]
        · rw [if_neg hu, hs, if_neg (fun h => hu h.1), if_neg (fun h => hu h.1)]
  exact lp _ 0 σ rfl (by omega) (fun u j => by rw [if_neg (fun h => by have := h.2; omega)])
theorem xCk_fill {l : Launch} {D : va_G} {yv : Nat → ClassId} {own : String} {cc : ByteArray} {N i : Nat} {sh : xH} (h1 : Cond.methodLink own i yJ7_fill_53178 ∈ gw) (h2 : Cond.static yJ7_fill_53178 ∈ gw) (h4 : Cond.initialized RJ7 ∈ gw) (h5 : Cond.code yJ7_fill_53178 cJ7_fill_53178 4 none ∈ gw) (hN : xfin N sh) : xCk l D yv own cc 1 N sh false i 2 (xFill sh) := by
  refine xCk.mono (fun as σ K hE => ?_)
  match as, hE with
  | [.inr (.inr (.inl t)), .inl v], hE =>
    have hE2 : ∃ n, sh t = some (2, n, []) ∧ n < 2147483648 ∧ K none (xfl σ t n v) := by
      unfold xFill at hE
      dsimp only at hE
      split at hE
      · rename_i n hs; exact ⟨n, hs, hE⟩
      · exact hE.elim
    obtain ⟨n, hs, hn, hQ⟩ := hE2
    refine ⟨xMS [t] (xT (kF n)), ?_, xCk_MS (n := 2) (N' := 1) (sh' := shF n) (mF l D yv hn) ⟨rfl, by simp, ?_, ?_⟩ h1 h2 h4 h5 (by decide +kernel) (by decide) hN⟩
    · have e1 : xallB [t] [xvr t, xvi v] = true := by simp [xallB, xix]
      unfold xMS
      rw [if_pos e1]
      have e2 : [xvr t, xvi v].map (xdn [t]) = [xvr 0, xvi v] := by simp [xdn, xix]
      unfold xMm
      rw [e2]
      refine s_fillI hn ?_
      show K none (xbk [t] σ (xfl (xsel [t] σ) 0 n v))
      have e3 : xbk [t] σ (xfl (xsel [t] σ) 0 n v) = xfl σ t n v := by
        funext u
        unfold xbk
        by_cases hu : t = u
        · subst hu
          simp only [xix, if_pos]
          funext j
          simp [xfl, xsel]
        · simp only [xix, if_neg hu, Option.map_none]
          funext j
          unfold xfl
          rw [if_neg (fun h => hu h.symm)]
      rw [e3]; exact hQ
    · intro i hi
      match i, hi with
      | 0, _ => rfl
    · intro i e he
      match i, he with
      | 0, he => cases he; exact ⟨by omega, hs⟩
/-- the greater, the smaller -/
def xMax : xE := fun as σ Q => match as with
  | [.inl a, .inl b] => ∀ r : Int, (r = a ∨ r = b) → a ≤ r → b ≤ r → Q (some (xvi r)) σ
  | _ => False
def xMin : xE := fun as σ Q => match as with
  | [.inl a, .inl b] => ∀ r : Int, (r = a ∨ r = b) → r ≤ a → r ≤ b → Q (some (xvi r)) σ
  | _ => False
theorem x32lty {x y : Int} (hx : xR32 x) (hy : xR32 y) : (Int32.ofInt x < Int32.ofInt y) ↔ x < y := by rw [Int32.lt_iff_toInt_lt, x32 hx, x32 hy]
theorem xgcons {x : Int} {rest : List xV} (h : xR32 x) (h2 : ∀ v ∈ rest, xg v) : ∀ v ∈ (some (xvi x)).toList ++ rest, xg v := by
  intro v hv
  rcases List.mem_append.mp hv with h3 | h3
  · have e : v = xvi x := by simpa using h3
    rw [e]; exact h
  · exact h2 v h3
theorem xCk_max {l : Launch} {D : va_G} {yv : Nat → ClassId} {own : String} {cc : ByteArray} {N i : Nat} {sh : xH} (h1 : Cond.methodLink own i yJ9_max_7cf53 ∈ gw) (h2 : Cond.static yJ9_max_7cf53 ∈ gw) (h4 : Cond.initialized RJ9 ∈ gw) (h5 : Cond.code yJ9_max_7cf53 cJ9_max_7cf53 2 (some .int) ∈ gw) : xCk l D yv own cc 1 N sh false i 2 xMax := by
  intro p e R s m args below meth c a ρ A nL Qm hx hb hml hown hg hK hA hR1 hR2 kz hk1 hk2 pc L rest as σ K hdec hE hlen hrest hk
  match as, hE with
  | [.inl x, .inl y], hE =>
    intro hL hst hσ hln H locs ls hP hD hS hl
    have hx1 : xR32 x := hst (xvi x) (by simp)
    have hy1 : xR32 y := hst (xvi y) (by simp)
    have hre : ∀ v ∈ rest, xg v := fun v hv => hst v (by simp [hv])
    refine va_mmax hx hb (hml.trans hl.1.symm) hown (hg _ h1) (hg _ h2) (hg _ h4) (hg _ h5) hR1 (by show ((rest.map (xv a)).map fun v => v.category).sum + 13 ≤ _; have := xcat a rest; omega) hk1 hk2 hdec ?_
    by_cases c1 : x < y
    · rw [if_pos ((x32lty hx1 hy1).mpr c1)]
      exact hk (some (xvi y)) σ (hE y (Or.inr rfl) (by omega) (by omega)) hL (xgcons hy1 hre) hσ hln H locs ls hP hD hS hl
    · rw [if_neg (fun h => c1 ((x32lty hx1 hy1).mp h))]
      exact hk (some (xvi x)) σ (hE x (Or.inl rfl) (by omega) (by omega)) hL (xgcons hx1 hre) hσ hln H locs ls hP hD hS hl
theorem xCk_min {l : Launch} {D : va_G} {yv : Nat → ClassId} {own : String} {cc : ByteArray} {N i : Nat} {sh : xH} (h1 : Cond.methodLink own i yJ9_min_7cf53 ∈ gw) (h2 : Cond.static yJ9_min_7cf53 ∈ gw) (h4 : Cond.initialized RJ9 ∈ gw) (h5 : Cond.code yJ9_min_7cf53 cJ9_min_7cf53 2 (some .int) ∈ gw) : xCk l D yv own cc 1 N sh false i 2 xMin := by
  intro p e R s m args below meth c a ρ A nL Qm hx hb hml hown hg hK hA hR1 hR2 kz hk1 hk2 pc L rest as σ K hdec hE hlen hrest hk
  match as, hE with
  | [.inl x, .inl y], hE =>
    intro hL hst hσ hln H locs ls hP hD hS hl
    have hx1 : xR32 x := hst (xvi x) (by simp)
    have hy1 : xR32 y := hst (xvi y) (by simp)
    have hre : ∀ v ∈ rest, xg v := fun v hv => hst v (by simp [hv])
    refine va_mmin hx hb (hml.trans hl.1.symm) hown (hg _ h1) (hg _ h2) (hg _ h4) (hg _ h5) hR1 (by show ((rest.map (xv a)).map fun v => v.category).sum + 13 ≤ _; have := xcat a rest; omega) hk1 hk2 hdec ?_
    by_cases c1 : y < x
    · rw [if_pos ((x32lty hy1 hx1).mpr c1)]
      exact hk (some (xvi y)) σ (hE y (Or.inr rfl) (by omega) (by omega)) hL (xgcons hy1 hre) hσ hln H locs ls hP hD hS hl
    · rw [if_neg (fun h => c1 ((x32lty hy1 hx1).mp h))]
      exact hk (some (xvi x)) σ (hE x (Or.inl rfl) (by omega) (by omega)) hL (xgcons hx1 hre) hσ hln H locs ls hP hD hS hl
/-- places of one row are copied into another -/
def xcp (σ : xS) (t sp u dp n : Nat) : xS := fun w j => if w = u then (if dp ≤ j ∧ j < dp + n then σ t (sp + (j - dp)) else σ u j) else σ w j
def xCopy (sh : xH) : xE := fun as σ Q => match as with
  | [.inr (.inr (.inl t)), .inl sp, .inr (.inr (.inl u)), .inl dp, .inl n] => (match sh t, sh u with
    | some (k + 1, m, _), some (k' + 1, m', _) => (k = 1 ∨ k = 2) ∧ k' = k ∧ (0 ≤ sp ∧ 0 ≤ dp ∧ 0 ≤ n ∧ sp + n ≤ m ∧ dp + n ≤ m') ∧ Q none (xcp σ t sp.toNat u dp.toNat n.toNat)
    | _, _ => False)
  | _ => False
theorem xcp_g {sh : xH} {σ : xS} {t u k m m' : Nat} {l l' : List Nat} {sp dp n : Nat} (h : xgs sh σ) (hs : sh t = some (k + 1, m, l)) (hu : sh u = some (k + 1, m', l')) (h1 : sp + n ≤ m) : xgs sh (xcp σ t sp u dp n) := by
  refine ⟨fun w ci codes hw j c hc => ?_, fun w k2 n2 l2 hw i hi => ?_⟩
  · have hne : ¬ w = u := fun e => by subst e; rw [hu] at hw; cases hw
    have e : xcp σ t sp u dp n w j = σ w j := by unfold xcp; rw [if_neg hne]
    rw [e]; exact h.1 w ci codes hw j c hc
  · unfold xcp
    by_cases e : w = u
    · subst e
      rw [hu] at hw
      cases hw
      rw [if_pos rfl]
      by_cases c : dp ≤ i ∧ i < dp + n
      · rw [if_pos c]; exact h.2 t k m l hs _ (by omega)
      · rw [if_neg c]; exact h.2 w k _ _ hu i hi
    · rw [if_neg e]; exact h.2 w k2 n2 l2 hw i hi
theorem xcell_cp {a : Nat → Nat} {y : Nat → ClassId} {ρ : Nat → Nat → Option Nat} {σ : xS} {t sp u dp n : Nat} (w : Nat) (hw : w ≠ u) (e : Nat × Nat × List Nat) : xcell a y ρ (xcp σ t sp u dp n) w e = xcell a y ρ σ w e := xcell_eq (by funext j; unfold xcp; rw [if_neg hw]) e
theorem x32nn {x : Int} (hx : xR32 x) (h : 0 ≤ x) : ¬ Int32.ofInt x < 0 := fun h2 => by
  have h3 : Int32.ofInt x < Int32.ofInt 0 := h2
  rw [x32lty hx ⟨by decide, by decide⟩] at h3
  omega
theorem nfw {z b r : Nat} (h : z ≤ 2 * b) (hb : b ≤ 4) (hr : 40 * 1 ≤ r) : z + (nativeFrameWords "java/lang/System" "arraycopy" 5 + 11) ≤ r := by
  have : nativeFrameWords "java/lang/System" "arraycopy" 5 ≤ 20 := by decide +kernel
  omega
theorem xCk_copy {l : Launch} {D : va_G} {yv : Nat → ClassId} {own : String} {cc : ByteArray} {N i : Nat} {sh : xH} (h1 : Cond.methodLink own i arraycopyName ∈ gw) (h2 : Cond.native arraycopyName ∈ gw) (h3 : Cond.static arraycopyName ∈ gw) (h4 : Cond.initialized "java/lang/System" ∈ gw) (hN : xfin N sh) : xCk l D yv own cc 1 N sh false i 5 (xCopy sh) := by
  intro p e R s m args below meth c a ρ A nL Qm hx hb hml hown hg hK hA hR1 hR2 kz hk1 hk2 pc L rest as σ K hdec hE hlen hrest hk
  match as, hE with
  | [.inr (.inr (.inl t)), .inl sp, .inr (.inr (.inl u)), .inl dp, .inl n], hE =>
    intro hL hst hσ hln H locs ls hP hD hS hl
    have hE2 : ∃ k m l m' l', sh t = some (k + 1, m, l) ∧ sh u = some (k + 1, m', l') ∧ (k = 1 ∨ k = 2) ∧ (0 ≤ sp ∧ 0 ≤ dp ∧ 0 ≤ n ∧ sp + n ≤ m ∧ dp + n ≤ m') ∧ K none (xcp σ t sp.toNat u dp.toNat n.toNat) := by
      unfold xCopy at hE
      dsimp only at hE
      split at hE
      · rename_i k m l k' m' l' hs hu
        obtain ⟨a1, rfl, a2, a3⟩ := hE
        exact ⟨_, _, _, _, _, hs, hu, a1, a2, a3⟩
      · exact hE.elim
    obtain ⟨k, m0, l0, m1, l1, hs, hu, hk12, hr, hQ⟩ := hE2
    have hsp : xR32 sp := hst (xvi sp) (by simp)
    have hdp : xR32 dp := hst (xvi dp) (by simp)
    have hn : xR32 n := hst (xvi n) (by simp)
    have hre : ∀ v ∈ rest, xg v := fun v hv => hst v (by simp [hv])
    obtain ⟨q0, hq0⟩ := xtags_in hN hs
    obtain ⟨q1, hq1⟩ := xtags_in hN hu
    have hg2 := xcp_g (dp := dp.toNat) (sp := sp.toNat) (n := n.toNat) hσ hs hu (by omega)
    have go := hk none _ hQ hL hre hg2 hln
    rcases hk12 with rfl | rfl
    · refine va_copyi hx hb (hml.trans hl.1.symm) hown (hg _ h1) (hg _ h2) (hg _ h3) (hg _ h4) hK hP hD hS q0 q1 1 1 (xws_at hq0 hs) (xws_at hq1 hu) rfl rfl (ty := .int) rfl (sp := Int32.ofInt sp) (dp := Int32.ofInt dp) (n := Int32.ofInt n) (x32nn hsp hr.1) (x32nn hdp hr.2.1) (x32nn hn hr.2.2.1) (by rw [x32cl hsp, x32cl hn]; omega) (by rw [x32cl hdp, x32cl hn]; omega) (fun _ _ => rfl) hR1 (nfw (xcat a rest) hrest hR2) hdec (fun H1 locs1 hP1 hD1 hS1 => ?_)
      have he := xws_set (a := a) (y := yv) (ρ := ρ) (σ := σ) (σ' := xcp σ t sp.toNat u dp.toNat n.toNat) (x := .inl (yv 1, m1, .inl (va_cpy (fun i => Int32.ofInt (σ t i)) (fun i => Int32.ofInt (σ u i)) (Int32.ofInt sp).toNatClampNeg (Int32.ofInt dp).toNatClampNeg (Int32.ofInt n).toNatClampNeg))) hq1 hu (by
        rw [x32cl hsp, x32cl hdp, x32cl hn]
        show (Sum.inl _ : va_E) = Sum.inl (yv 1, m1, Sum.inl (fun i => Int32.ofInt (xcp σ t sp.toNat u dp.toNat n.toNat u i)))
        congr 4
        funext j
        unfold va_cpy xcp
        rw [if_pos rfl]
        split <;> rfl) (fun w hw e' => xcell_cp w hw e')
      exact go H1 locs1 ls (he ▸ hP1) (he ▸ hD1) hS1 hl
    · refine va_copyl hx hb (hml.trans hl.1.symm) hown (hg _ h1) (hg _ h2) (hg _ h3) (hg _ h4) hK hP hD hS q0 q1 2 2 (xws_at hq0 hs) (xws_at hq1 hu) rfl rfl (ty := .long) rfl (sp := Int32.ofInt sp) (dp := Int32.ofInt dp) (n := Int32.ofInt n) (x32nn hsp hr.1) (x32nn hdp hr.2.1) (x32nn hn hr.2.2.1) (by rw [x32cl hsp, x32cl hn]; omega) (by rw [x32cl hdp, x32cl hn]; omega) (fun _ _ => rfl) hR1 (nfw (xcat a rest) hrest hR2) hdec (fun H1 locs1 hP1 hD1 hS1 => ?_)
      have he := xws_set (a := a) (y := yv) (ρ := ρ) (σ := σ) (σ' := xcp σ t sp.toNat u dp.toNat n.toNat) (x := .inl (yv 2, m1, .inr (.inl (va_cpy (fun i => Int64.ofInt (σ t i)) (fun i => Int64.ofInt (σ u i)) (Int32.ofInt sp).toNatClampNeg (Int32.ofInt dp).toNatClampNeg (Int32.ofInt n).toNatClampNeg)))) hq1 hu (by
        rw [x32cl hsp, x32cl hdp, x32cl hn]
        show (Sum.inl _ : va_E) = Sum.inl (yv 2, m1, Sum.inr (Sum.inl (fun i => Int64.ofInt (xcp σ t sp.toNat u dp.toNat n.toNat u i))))
        congr 5
        funext j
        unfold va_cpy xcp
        rw [if_pos rfl]
        split <;> rfl) (fun w hw e' => xcell_cp w hw e')
      exact go H1 locs1 ls (he ▸ hP1) (he ▸ hD1) hS1 hl
