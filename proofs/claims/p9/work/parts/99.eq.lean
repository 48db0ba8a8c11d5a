theorem q_4_2 : Cond.classLink RX10 250 RX4 ∈ gw := gw_4 2 (by decide +kernel) rfl
theorem q_4_3 : Cond.instantiable RX4 10 ∈ gw := gw_4 3 (by decide +kernel) rfl
theorem q_4_5 : Cond.instanceMethod yX4_init ∈ gw := gw_4 5 (by decide +kernel) rfl
theorem q_4_6 : Cond.code yX4_init cX4_init 1 none ∈ gw := gw_4 6 (by decide +kernel) rfl
theorem q_4_141 : Cond.classLink RX10 303 RX0 ∈ gw := gw_4 141 (by decide +kernel) rfl
theorem q_4_142 : Cond.instantiable RX0 13 ∈ gw := gw_4 142 (by decide +kernel) rfl
theorem q_4_144 : Cond.instanceMethod yX0_init ∈ gw := gw_4 144 (by decide +kernel) rfl
theorem q_4_145 : Cond.code yX0_init cX0_init 1 none ∈ gw := gw_4 145 (by decide +kernel) rfl
theorem dX5_takeBack_0 : decode cX5_takeBack 0 = .ok (.aload_n 0, 1) := by decide +kernel
theorem dX5_takeBack_1 : decode cX5_takeBack 1 = .ok (.getfield 15, 3) := by decide +kernel
theorem dX5_takeBack_4 : decode cX5_takeBack 4 = .ok (.ifCond .le 12, 3) := by decide +kernel
theorem dX5_takeBack_7 : decode cX5_takeBack 7 = .ok (.aload_n 0, 1) := by decide +kernel
theorem dX5_takeBack_8 : decode cX5_takeBack 8 = .ok (.getfield 15, 3) := by decide +kernel
theorem dX5_takeBack_11 : decode cX5_takeBack 11 = .ok (.iconst 1, 1) := by decide +kernel
theorem dX5_takeBack_12 : decode cX5_takeBack 12 = .ok (.isub, 1) := by decide +kernel
theorem dX5_takeBack_13 : decode cX5_takeBack 13 = .ok (.goto 5, 3) := by decide +kernel
theorem dX5_takeBack_16 : decode cX5_takeBack 16 = .ok (.bipush 7, 2) := by decide +kernel
theorem dX5_takeBack_18 : decode cX5_takeBack 18 = .ok (.istore_n 2, 1) := by decide +kernel
theorem dX5_takeBack_19 : decode cX5_takeBack 19 = .ok (.aload_n 0, 1) := by decide +kernel
theorem dX5_takeBack_20 : decode cX5_takeBack 20 = .ok (.getfield 19, 3) := by decide +kernel
theorem dX5_takeBack_23 : decode cX5_takeBack 23 = .ok (.ifCond .eq 12, 3) := by decide +kernel
theorem dX5_takeBack_26 : decode cX5_takeBack 26 = .ok (.aload_n 0, 1) := by decide +kernel
theorem dX5_takeBack_27 : decode cX5_takeBack 27 = .ok (.getfield 11, 3) := by decide +kernel
theorem dX5_takeBack_30 : decode cX5_takeBack 30 = .ok (.iload_n 2, 1) := by decide +kernel
theorem dX5_takeBack_31 : decode cX5_takeBack 31 = .ok (.aaload, 1) := by decide +kernel
theorem dX5_takeBack_32 : decode cX5_takeBack 32 = .ok (.ifnonnull 5, 3) := by decide +kernel
theorem dX5_takeBack_35 : decode cX5_takeBack 35 = .ok (.iconst 0, 1) := by decide +kernel
theorem dX5_takeBack_36 : decode cX5_takeBack 36 = .ok (.ireturn, 1) := by decide +kernel
theorem dX5_takeBack_37 : decode cX5_takeBack 37 = .ok (.aload_n 1, 1) := by decide +kernel
theorem dX5_takeBack_38 : decode cX5_takeBack 38 = .ok (.aload_n 0, 1) := by decide +kernel
theorem dX5_takeBack_39 : decode cX5_takeBack 39 = .ok (.getfield 11, 3) := by decide +kernel
theorem dX5_takeBack_42 : decode cX5_takeBack 42 = .ok (.iload_n 2, 1) := by decide +kernel
theorem dX5_takeBack_43 : decode cX5_takeBack 43 = .ok (.aaload, 1) := by decide +kernel
theorem dX5_takeBack_44 : decode cX5_takeBack 44 = .ok (.invokevirtual 23, 3) := by decide +kernel
theorem dX5_takeBack_47 : decode cX5_takeBack 47 = .ok (.aload_n 0, 1) := by decide +kernel
theorem dX5_takeBack_48 : decode cX5_takeBack 48 = .ok (.iload_n 2, 1) := by decide +kernel
theorem dX5_takeBack_49 : decode cX5_takeBack 49 = .ok (.putfield 15, 3) := by decide +kernel
theorem dX5_takeBack_52 : decode cX5_takeBack 52 = .ok (.aload_n 0, 1) := by decide +kernel
theorem dX5_takeBack_53 : decode cX5_takeBack 53 = .ok (.dup, 1) := by decide +kernel
theorem dX5_takeBack_54 : decode cX5_takeBack 54 = .ok (.getfield 19, 3) := by decide +kernel
theorem dX5_takeBack_57 : decode cX5_takeBack 57 = .ok (.iconst 1, 1) := by decide +kernel
theorem dX5_takeBack_58 : decode cX5_takeBack 58 = .ok (.isub, 1) := by decide +kernel
theorem dX5_takeBack_59 : decode cX5_takeBack 59 = .ok (.putfield 19, 3) := by decide +kernel
theorem dX5_takeBack_62 : decode cX5_takeBack 62 = .ok (.iconst 1, 1) := by decide +kernel
theorem dX5_takeBack_63 : decode cX5_takeBack 63 = .ok (.ireturn, 1) := by decide +kernel
theorem dX10_takeOnlooker_0 : decode cX10_takeOnlooker 0 = .ok (.aload_n 0, 1) := by decide +kernel
theorem dX10_takeOnlooker_1 : decode cX10_takeOnlooker 1 = .ok (.getfield 98, 3) := by decide +kernel
theorem dX10_takeOnlooker_4 : decode cX10_takeOnlooker 4 = .ok (.ifnonnull 14, 3) := by decide +kernel
theorem dX10_takeOnlooker_7 : decode cX10_takeOnlooker 7 = .ok (.aload_n 0, 1) := by decide +kernel
theorem dX10_takeOnlooker_8 : decode cX10_takeOnlooker 8 = .ok (.new 250, 3) := by decide +kernel
theorem dX10_takeOnlooker_11 : decode cX10_takeOnlooker 11 = .ok (.dup, 1) := by decide +kernel
theorem dX10_takeOnlooker_12 : decode cX10_takeOnlooker 12 = .ok (.invokespecial 380, 3) := by decide +kernel
theorem dX10_takeOnlooker_15 : decode cX10_takeOnlooker 15 = .ok (.putfield 98, 3) := by decide +kernel
theorem dX10_takeOnlooker_18 : decode cX10_takeOnlooker 18 = .ok (.aload_n 0, 1) := by decide +kernel
theorem dX10_takeOnlooker_19 : decode cX10_takeOnlooker 19 = .ok (.getfield 98, 3) := by decide +kernel
theorem dX10_takeOnlooker_22 : decode cX10_takeOnlooker 22 = .ok (.areturn, 1) := by decide +kernel
theorem dX10_takeDuel_0 : decode cX10_takeDuel 0 = .ok (.aload_n 0, 1) := by decide +kernel
theorem dX10_takeDuel_1 : decode cX10_takeDuel 1 = .ok (.getfield 102, 3) := by decide +kernel
theorem dX10_takeDuel_4 : decode cX10_takeDuel 4 = .ok (.ifnonnull 14, 3) := by decide +kernel
theorem dX10_takeDuel_7 : decode cX10_takeDuel 7 = .ok (.aload_n 0, 1) := by decide +kernel
theorem dX10_takeDuel_8 : decode cX10_takeDuel 8 = .ok (.new 303, 3) := by decide +kernel
theorem dX10_takeDuel_11 : decode cX10_takeDuel 11 = .ok (.dup, 1) := by decide +kernel
theorem dX10_takeDuel_12 : decode cX10_takeDuel 12 = .ok (.invokespecial 381, 3) := by decide +kernel
theorem dX10_takeDuel_15 : decode cX10_takeDuel 15 = .ok (.putfield 102, 3) := by decide +kernel
theorem dX10_takeDuel_18 : decode cX10_takeDuel 18 = .ok (.aload_n 0, 1) := by decide +kernel
theorem dX10_takeDuel_19 : decode cX10_takeDuel 19 = .ok (.getfield 102, 3) := by decide +kernel
theorem dX10_takeDuel_22 : decode cX10_takeDuel 22 = .ok (.areturn, 1) := by decide +kernel
theorem sh0 (w : Nat → Bool) : vsh w 0 = some (0, 10, [5, 0, 0, 6, 19, 32, 34, 36, 38, 40, 43, 45, 46, 47, 48, 49, 50, 0, 3, 3]) := shW_of rfl (Or.inl rfl)
theorem sh41 (w : Nat → Bool) : vsh w 41 = some (5, 2, []) := shW_of rfl (Or.inl rfl)
theorem sh42 (w : Nat → Bool) : vsh w 42 = some (6, 2, []) := shW_of rfl (Or.inl rfl)
theorem wOn_self {w : Nat → Bool} {b : Nat} (h : w b = true) : wOn w b = w := by
  funext c
  unfold wOn
  split
  · rename_i e; rw [e, h]
  · rfl
/-- a sentence copied into another block -/
def g2 (t : Nat) : List Nat := [t, t + 1]
def cpN (tb sb : Nat) : Bool := xsubB (g2 tb ++ g2 sb) wlNN wlVF0 && (xallB (g2 tb ++ g2 sb) [xvr tb, xvr sb] && (decide ([xvr tb, xvr sb].map (xdn (g2 tb ++ g2 sb)) = [xvr 0, xvr 2]) && ((List.range 2).all (fun k => decide (xix (g2 tb ++ g2 sb) (tb + k) = some k) && (decide (blkV (tb + k) = blkV tb) && decide (blkV (sb + k) = blkV sb))))))
theorem cpN_e {tb sb : Nat} (h : cpN tb sb = true) : xsubB (g2 tb ++ g2 sb) wlNN wlVF0 = true ∧ xallB (g2 tb ++ g2 sb) [xvr tb, xvr sb] = true ∧ [xvr tb, xvr sb].map (xdn (g2 tb ++ g2 sb)) = [xvr 0, xvr 2] ∧ (∀ k, k < 2 → xix (g2 tb ++ g2 sb) (tb + k) = some k ∧ blkV (tb + k) = blkV tb ∧ blkV (sb + k) = blkV sb) := by
  unfold cpN at h
  simp only [Bool.and_eq_true, decide_eq_true_eq] at h
  refine ⟨h.1, h.2.1, h.2.2.1, fun k hk => ?_⟩
  have h1 := List.all_eq_true.mp h.2.2.2 k (List.mem_range.mpr hk)
  simp only [Bool.and_eq_true, decide_eq_true_eq] at h1
  exact ⟨h1.1, h1.2.1, h1.2.2⟩
theorem cpS : ∀ k, k < 2 → cpN (177 + 2 * k) 28 = true ∧ cpN 28 (177 + 2 * k) = true := by decide +kernel
theorem g2_mem {t tb : Nat} (h : t ∈ g2 tb) : ∃ k, k < 2 ∧ t = tb + k := by
  simp only [g2, List.mem_cons, List.not_mem_nil, or_false] at h
  rcases h with h | h
  · exact ⟨0, by omega, by omega⟩
  · exact ⟨1, by omega, by omega⟩
theorem vCopyNC {l : Launch} {D : va_G} {yv : Nat → ClassId} {cc : ByteArray} {tb sb : Nat} {w : Nat → Bool} (h : cpN tb sb = true) (ht : blkV tb = 0 ∨ w (blkV tb) = true) (hs : blkV sb = 0 ∨ w (blkV sb) = true) : xCk l D yv RX10 cc 2 194 (vsh w) true 348 2 (xMV (vsh w) 7 (g2 tb ++ g2 sb) (xT kX7_copyFrom)) := by
  obtain ⟨a1, a2, a3, a4⟩ := cpN_e h
  refine xCk_MV (n := 1) (τ := g2 tb ++ g2 sb) (mX7_copyFrom l D yv) (subW (xsubB_ok (l' := wlNN) (l := wlVF0) a1) (fun t ht2 => ?_)) q_5_182 q_5_183 q_5_184 q_1_5 q_5_185 rfl rfl (by decide +kernel) (by decide) (vfi w)
  rcases List.mem_append.mp ht2 with h5 | h5
  · obtain ⟨k, h6, rfl⟩ := g2_mem h5
    rw [(a4 k h6).2.1]; exact ht
  · obtain ⟨k, h6, rfl⟩ := g2_mem h5
    rw [(a4 k h6).2.2]; exact hs
theorem vSent {tb : Nat} {w : Nat → Bool} {sb : Nat} (h : cpN tb sb = true) (ht : blkV tb = 0 ∨ w (blkV tb) = true) : ∃ codes, vsh w tb = some (0, 7, codes) := by
  have h1 := (xsubB_ok (l' := wlNN) (l := wlVF0) (cpN_e h).1).2.2.2 0 _ rfl
  exact ⟨_, shW_of (l := wlVF0) h1.2 ht⟩
theorem vCopyNE {σ : xS} {tb sb : Nat} {w : Nat → Bool} {K : Option xV → xS → Prop} (h : cpN tb sb = true) (ht : blkV tb = 0 ∨ w (blkV tb) = true) (hK : ∀ σ', (∀ t, t ∉ g2 tb → σ' t = σ t) → σ' tb 1 = σ sb 1 → K none σ') : xMV (vsh w) 7 (g2 tb ++ g2 sb) (xT kX7_copyFrom) [xvr tb, xvr sb] σ K := by
  obtain ⟨a1, a2, a3, a4⟩ := cpN_e h
  obtain ⟨codes, hc⟩ := vSent h ht
  refine xMVf hc a2 (fun Q2 hQ2 => ?_)
  rw [show (xvr tb :: [xvr sb]).map (xdn (g2 tb ++ g2 sb)) = [xvr 0, xvr 2] from a3]
  refine sX7_copyFrom (σ := xsel (g2 tb ++ g2 sb) σ) (fun ς f p => hQ2 _ _ ?_)
  refine hK _ (fun t ht2 => ?_) ?_
  · unfold xbk
    cases hx : xix (g2 tb ++ g2 sb) t with
    | none => rfl
    | some j =>
      have h5 := xix_e hx
      have hj : 2 ≤ j := by
        rcases Nat.lt_or_ge j 2 with h6 | h6
        · rw [List.getElem?_append_left (show j < (g2 tb).length from h6)] at h5
          exact absurd (List.mem_of_getElem? h5) ht2
        · exact h6
      show ς j = σ t
      rw [f.1 j (by omega) (by simp only [List.mem_cons, List.not_mem_nil, or_false]; omega)]
      show σ ((g2 tb ++ g2 sb).getD j 0) = σ t
      rw [xgetD h5]
  · show xbk (g2 tb ++ g2 sb) σ ς (tb + 0) 1 = _
    unfold xbk
    rw [(a4 0 (by omega)).1]
    exact p
def JW (w : Nat → Bool) (σ : xS) : Prop := JV w σ ∧ ∀ k : Nat, k < 2 → w (9 + k) = w (11 + k)
theorem fr0 {ts : List Nat} {σ σ' : xS} (f : Fr ts [] σ σ') {t : Nat} (h : t ∉ ts) : σ' t = σ t := by
  by_cases h0 : t = 0
  · subst h0
    funext j
    exact f.2 j (by simp)
  · exact f.1 t h0 h
def takeBackE : vE := fun w as σ Q => as = [xvr 39, xvr 2] ∧ PV w σ ∧ JG (xsel (g13 2) σ) ∧ ∀ (r : Int) σ', (∀ t, t ∉ g13 2 → t ≠ 39 → σ' t = σ t) → PV w σ' → JG (xsel (g13 2) σ') → Q (some (xvi r)) w σ'
set_option maxHeartbeats 4000000 in
set_option maxRecDepth 100000 in
theorem mvX5_takeBack (l : Launch) (D : va_G) (yv : Nat → ClassId) : vMt l D yv yX5_takeBack cX5_takeBack 3 (some .boolean) 3 (fun _ => 0) (fun _ => 0) takeBackE := by
  intro a ρ w sz as σ Q hE hLK hσ has
  obtain ⟨rfl, ⟨ht, hs8, hkg⟩, hJ, hQ⟩ := hE
  refine vEnter (N := 194) (sh := vsh w) (by decide +kernel) (Nat.le_of_ble_eq_true rfl) hσ has (fun p e s m below meth c hsz hXX hC => ?_)
  generalize va_A (xws a yv ρ 194 (vsh w) σ) sz = A at hC ⊢
  show XA (0, 0) p l e (vroom 3 0 0) s m _ below meth c D yv a ρ 194 (vsh w) A 3 _ 0 [xvr 39, xvr 2, xvu] [] σ
  have hret0 : ∀ σ1, Fr [] [] σ σ1 → Q (some (xvi 0)) w σ1 := fun σ1 f => hQ 0 σ1 (fun t _ _ => fr0 f (by simp)) ⟨by rw [fr0 f (t := 39) (by simp)]; exact ht, by rw [fr0 f (t := 39) (by simp)]; exact hs8, fun i hi hw => jg_sel (hkg i hi hw) (fun k hk => fr0 f (by simp))⟩ (jg_sel hJ (fun k hk => fr0 f (by simp)))
  refine vTE (C := kX5_takeBack_a w) (w := w) (w0 := w) (a0 := a) (mc := 0) (ms := 0) (Z := fun c L σ1 => ∃ last : Int, (0 ≤ last ∧ last ≤ 7) ∧ 1 ≤ σ 39 2 ∧ c = 26 ∧ L = [xvr 39, xvr 2, xvi last] ∧ σ = σ1) ⟨(Nat.le_of_ble_eq_true rfl), (Nat.le_of_ble_eq_true rfl)⟩ hC (zX5_takeBack_a w) (fun v i n E he => (hX5_takeBack_a w l D yv v i n E he).up (Nat.le_of_ble_eq_true rfl)) (Nat.le_of_ble_eq_true rfl) (Nat.le_of_ble_eq_true rfl) rfl hLK (fun _ _ => rfl) (pX5_takeBack_a ht hs8 (fun r σ1 f hr => ⟨(fun _ h => by cases h), by subst hr; exact hret0 σ1 f⟩) (fun last h1 h2 => ⟨last, h1, h2, rfl, rfl, rfl⟩)) ?_
  rintro _ _ _ ⟨last, hl, hs1, rfl, rfl, rfl⟩
  obtain ⟨i, hi, hli⟩ : ∃ i : Nat, i < 8 ∧ last = i := ⟨last.toNat, by omega, by omega⟩
  refine xs_aload hC (i := 0) (x := 39) dX5_takeBack_26 rfl ?_
  refine xs_get hC (vfi w) (foX5 11 5 0 rfl) (cd := 44) (v := xvr 40) (sh39 w) rfl rfl (fun _ => trivial) dX5_takeBack_27 ?_
  refine xs_iload hC (i := 2) (x := last) dX5_takeBack_30 rfl ?_
  cases hwi : w (1 + i) with
  | false =>
    refine xs_aaload hC (vfi w) (k := 4) (v := xvu) (Or.inl rfl) (sh40 w) ⟨by omega, by omega⟩ ⟨by omega, by omega⟩ (by rw [show last.toNat = i by omega, hLK.1 i hi, if_neg (by rw [hwi]; decide)]; rfl) trivial dX5_takeBack_31 ?_
    refine xs_ifnonnullN hC dX5_takeBack_32 ?_
    exact vTE (C := kX5_takeBack_c w) (w := w) (Z := fun _ _ _ => False) ⟨(Nat.le_of_ble_eq_true rfl), (Nat.le_of_ble_eq_true rfl)⟩ hC (zX5_takeBack_c w) (fun v i n E he => (hX5_takeBack_c w l D yv v i n E he).up (Nat.le_of_ble_eq_true rfl)) (Nat.le_of_ble_eq_true rfl) (Nat.le_of_ble_eq_true rfl) rfl hLK (fun _ _ => rfl) (pX5_takeBack_c (fun r σ1 f hr => ⟨(fun _ h => by cases h), by subst hr; exact hret0 σ1 f⟩)) (fun _ _ _ h => h.elim)
  | true =>
    refine xs_aaload hC (vfi w) (k := 4) (v := xvr (47 + 13 * i)) (Or.inl rfl) (sh40 w) ⟨by omega, by omega⟩ ⟨by omega, by omega⟩ (by rw [show last.toNat = i by omega, hLK.1 i hi, if_pos hwi]; rfl) trivial dX5_takeBack_31 ?_
    refine xs_ifnonnull hC (tgt := 37) dX5_takeBack_32 rfl ?_
    refine xs_aload hC (i := 1) (x := 2) dX5_takeBack_37 rfl ?_
    refine xs_aload hC (i := 0) (x := 39) dX5_takeBack_38 rfl ?_
    refine xs_get hC (vfi w) (foX5 11 5 0 rfl) (cd := 44) (v := xvr 40) (sh39 w) rfl rfl (fun _ => trivial) dX5_takeBack_39 ?_
    refine xs_iload hC (i := 2) (x := last) dX5_takeBack_42 rfl ?_
    refine xs_aaload hC (vfi w) (k := 4) (v := xvr (47 + 13 * i)) (Or.inl rfl) (sh40 w) ⟨by omega, by omega⟩ ⟨by omega, by omega⟩ (by rw [show last.toNat = i by omega, hLK.1 i hi, if_pos hwi]; rfl) trivial dX5_takeBack_43 ?_
    have hcp := (cpK i hi).2.2
    have hbs : blkV (47 + 13 * i) = 0 ∨ w (blkV (47 + 13 * i)) = true := Or.inr (by rw [bk1 hi]; exact hwi)
    refine xs_ck (v := true) (i := 23) (n := 2) (as := [xvr 2, xvr (47 + 13 * i)]) (rest := []) (K := fun r σ' => r = none ∧ (∀ t, t ∉ g13 2 → σ' t = σ t) ∧ JG (xsel (g13 2) σ')) hC (vCopyC hcp q_3_182 (Or.inl rfl) hbs) (Nat.le_of_ble_eq_true rfl) (Nat.le_of_ble_eq_true rfl) dX5_takeBack_44 (vCopyE hcp (Or.inl rfl) (hkg i hi hwi) (fun σ' h1 h2 => ⟨rfl, h1, h2⟩)) rfl (by decide) (fun r σ1 hk => ?_)
    obtain ⟨rfl, h1, h2⟩ := hk
    have h39 : σ1 39 = σ 39 := h1 39 (by decide)
    refine vTE (C := kX5_takeBack_d w) (w := w) (Z := fun _ _ _ => False) ⟨(Nat.le_of_ble_eq_true rfl), (Nat.le_of_ble_eq_true rfl)⟩ hC (zX5_takeBack_d w) (fun v i n E he => (hX5_takeBack_d w l D yv v i n E he).up (Nat.le_of_ble_eq_true rfl)) (Nat.le_of_ble_eq_true rfl) (Nat.le_of_ble_eq_true rfl) rfl hLK (fun _ _ => rfl) (pX5_takeBack_d hl (by rw [h39]; omega) (fun r σ2 f hr => ⟨(fun _ h => by cases h), ?_⟩)) (fun _ _ _ h => h.elim)
    obtain ⟨rfl, p1, p2⟩ := hr
    have hu : ∀ t, t ≠ 39 → σ2 t = σ1 t := fun t ht => fr0 f (by simp [ht])
    refine hQ 1 σ2 (fun t h3 h4 => (hu t h4).trans (h1 t h3)) ⟨p1, p2, fun i2 hi2 hw2 => jg_sel (hkg i2 hi2 hw2) (fun k hk => (hu _ (by omega)).trans (h1 _ (fun hm => ?_)))⟩ (jg_sel h2 (fun k hk => hu _ (by omega)))
    obtain ⟨k3, hk3, hm⟩ := g13_mem hm
    omega
def onlE : vE := fun w as σ Q => as = [xvr 0] ∧ ∀ σ', (∀ t, blkV t ≠ 13 → σ' t = σ t) → Q (some (xvr 181)) (wOn w 13) σ'
set_option maxHeartbeats 4000000 in
set_option maxRecDepth 100000 in
theorem mvX10_takeOnlooker (l : Launch) (D : va_G) (yv : Nat → ClassId) : vMt l D yv yX10_takeOnlooker cX10_takeOnlooker 1 (some (.object "SevenTable$Odds")) 2 (fun w => if w 13 = true then 0 else 8) (fun w => if w 13 = true then 0 else 15684) onlE := by
  intro a ρ w sz as σ Q hE hLK hσ has
  obtain ⟨rfl, hQ⟩ := hE
  refine vEnter (N := 194) (sh := vsh w) (by decide +kernel) (Nat.le_of_ble_eq_true rfl) hσ has (fun p e s m below meth c hsz hXX hC => ?_)
  generalize va_A (xws a yv ρ 194 (vsh w) σ) sz = A at hC ⊢
  have hlk : ρ 0 18 = if w 13 = true then some (a 181) else none := hLK.2.2.2.1
  cases hwb : w 13 with
  | true =>
    simp only [hwb, if_true] at hC ⊢
    show XA (0, 0) p l e (vroom 2 0 0) s m _ below meth c D yv a ρ 194 (vsh w) A 1 _ 0 [xvr 0] [] σ
    rw [if_pos hwb] at hlk
    refine xs_aload hC (i := 0) (x := 0) dX10_takeOnlooker_0 rfl ?_
    refine xs_get hC (vfi w) (foX10 98 10 18 rfl) (cd := 3) (v := xvr 181) (sh0 w) rfl (by show va_rf (ρ 0 18) = _; rw [hlk]; rfl) (fun _ => trivial) dX10_takeOnlooker_1 ?_
    refine xs_ifnonnull hC (tgt := 18) dX10_takeOnlooker_4 rfl ?_
    refine xs_aload hC (i := 0) (x := 0) dX10_takeOnlooker_18 rfl ?_
    refine xs_get hC (vfi w) (foX10 98 10 18 rfl) (cd := 3) (v := xvr 181) (sh0 w) rfl (by show va_rf (ρ 0 18) = _; rw [hlk]; rfl) (fun _ => trivial) dX10_takeOnlooker_19 ?_
    exact vs_aret ⟨(Nat.le_of_ble_eq_true rfl), (Nat.le_of_ble_eq_true rfl)⟩ hC (Or.inl ⟨_, rfl⟩) hLK (fun _ _ => rfl) (by decide) (by have := hQ σ (fun _ _ => rfl); rw [wOn_self hwb] at this; exact this) dX10_takeOnlooker_22
  | false =>
    simp only [hwb, if_false, Bool.false_eq_true] at hC ⊢
    show XA (0, 0) p l e (vroom 2 8 15684) s m _ below meth c D yv a ρ 194 (vsh w) A 1 _ 0 [xvr 0] [] σ
    rw [if_neg (by rw [hwb]; decide)] at hlk
    refine xs_aload hC (i := 0) (x := 0) dX10_takeOnlooker_0 rfl ?_
    refine xs_get hC (vfi w) (foX10 98 10 18 rfl) (cd := 3) (v := xvu) (sh0 w) rfl (by show va_rf (ρ 0 18) = _; rw [hlk]; rfl) (fun _ => trivial) dX10_takeOnlooker_1 ?_
    refine xs_ifnonnullN hC dX10_takeOnlooker_4 ?_
    refine xs_aload hC (i := 0) (x := 0) dX10_takeOnlooker_7 rfl ?_
    refine vs_new (mc := 7) (ms := 15674) hC hXX vB13 hwb q_4_2 q_4_3 q_1_22 (C := RX4) (T := TX4) (NN := 10) (ci := 4) (fs0 := fsX4) (ty0 := tyX4) rfl inGX4 tyX4_ok px_fsX4 dX10_takeOnlooker_8 dX10_takeOnlooker_11 (Nat.le_of_ble_eq_true rfl) (Nat.le_of_ble_eq_true rfl) (Nat.le_of_ble_eq_true rfl)
      (fun H1 locs1 ls g2 rest h1 h2 h3 => va_runIN (As := []) (n := 0) ⟨hC.1, hC.2.1, hC.2.2.1, hC.2.2.2.1, hC.2.2.2.2.1⟩ (ctX4 l D yv H1.size g2) ⟨va_cnB 0 hC.2.2.2.2.1 (px_gI q_4_6) rfl rfl rfl hXX.2.1 (hC.2.2.2.2.1 _ q_1_22) (by decide +kernel) ⟨(Nat.le_of_ble_eq_true rfl), (Nat.le_of_ble_eq_true rfl)⟩, rfl, (hC.2.2.2.2.1 _ q_4_5)⟩ h2 rfl rfl h1 rfl (by simpa using h3) dX10_takeOnlooker_12 ⟨(Nat.le_of_ble_eq_true rfl), (Nat.le_of_ble_eq_true rfl)⟩) (fun u hu => by
        simp only [List.mem_cons, List.not_mem_nil, or_false] at hu
        cases hu; rw [sh0]; rfl) (fun u hu => by
        simp only [List.mem_cons, List.not_mem_nil, or_false] at hu
        cases hu; rw [sh0]; rfl) (fun a1 ρ1 σ1 hout => ?_)
    have hout2 : ∀ t, blkV t ≠ 13 → a1 t = a t ∧ ρ1 t = ρ t ∧ σ1 t = σ t := fun t ht => hout t (vB_out vB13 ht)
    refine vs_putr (w := wOn w 13) (t := 0) (u := 181) (ty := .object "SevenTable$Odds") (T := TX10) (NN := 20) (ci := 10) (j := 18) hC rfl inGX10 tyX10_ok nmX10 (by decide) q_2_121 rfl (by decide +kernel) (fun _ => rfl) (fun _ => rfl) (sh0 _) rfl dX10_takeOnlooker_15 ?_
    have hLK2 := LK_on (b := 13) (x0 := 0) (j0 := 18) (tb := 181) hLK (fun t ht => ⟨(hout2 t ht).1, (hout2 t ht).2.1⟩) (Or.inr (Or.inr (Or.inr (Or.inl ⟨rfl, rfl, rfl, rfl⟩))))
    refine xs_aload hC (i := 0) (x := 0) dX10_takeOnlooker_18 rfl ?_
    refine xs_get hC (vfi (wOn w 13)) (foX10 98 10 18 rfl) (cd := 3) (v := xvr 181) (sh0 (wOn w 13)) rfl (by rfl) (fun _ => trivial) dX10_takeOnlooker_19 ?_
    exact vs_aret ⟨(Nat.le_of_ble_eq_true rfl), (Nat.le_of_ble_eq_true rfl)⟩ hC (Or.inl ⟨_, rfl⟩) hLK2 (fun t ht => (hout t (vOn_none vB13 hwb ht)).1) (by decide) (hQ σ1 (fun t ht => (hout2 t ht).2.2)) dX10_takeOnlooker_22
def dueE : vE := fun w as σ Q => as = [xvr 0] ∧ ∀ σ', (∀ t, blkV t ≠ 14 → σ' t = σ t) → Q (some (xvr 189)) (wOn w 14) σ'
set_option maxHeartbeats 4000000 in
set_option maxRecDepth 100000 in
theorem mvX10_takeDuel (l : Launch) (D : va_G) (yv : Nat → ClassId) : vMt l D yv yX10_takeDuel cX10_takeDuel 1 (some (.object "SevenTable$Duel")) 2 (fun _ => 5) (fun _ => 2526) dueE := by
  intro a ρ w sz as σ Q hE hLK hσ has
  obtain ⟨rfl, hQ⟩ := hE
  refine vEnter (N := 194) (sh := vsh w) (by decide +kernel) (Nat.le_of_ble_eq_true rfl) hσ has (fun p e s m below meth c hsz hXX hC => ?_)
  generalize va_A (xws a yv ρ 194 (vsh w) σ) sz = A at hC ⊢
  have hlk : ρ 0 19 = if w 14 = true then some (a 189) else none := hLK.2.2.2.2
  cases hwb : w 14 with
  | true =>
    show XA (0, 0) p l e (vroom 2 5 2526) s m _ below meth c D yv a ρ 194 (vsh w) A 1 _ 0 [xvr 0] [] σ
    rw [if_pos hwb] at hlk
    refine xs_aload hC (i := 0) (x := 0) dX10_takeDuel_0 rfl ?_
    refine xs_get hC (vfi w) (foX10 102 10 19 rfl) (cd := 3) (v := xvr 189) (sh0 w) rfl (by show va_rf (ρ 0 19) = _; rw [hlk]; rfl) (fun _ => trivial) dX10_takeDuel_1 ?_
    refine xs_ifnonnull hC (tgt := 18) dX10_takeDuel_4 rfl ?_
    refine xs_aload hC (i := 0) (x := 0) dX10_takeDuel_18 rfl ?_
    refine xs_get hC (vfi w) (foX10 102 10 19 rfl) (cd := 3) (v := xvr 189) (sh0 w) rfl (by show va_rf (ρ 0 19) = _; rw [hlk]; rfl) (fun _ => trivial) dX10_takeDuel_19 ?_
    exact vs_aret ⟨(Nat.le_of_ble_eq_true rfl), (Nat.le_of_ble_eq_true rfl)⟩ hC (Or.inl ⟨_, rfl⟩) hLK (fun _ _ => rfl) (by decide) (by have := hQ σ (fun _ _ => rfl); rw [wOn_self hwb] at this; exact this) dX10_takeDuel_22
  | false =>
    show XA (0, 0) p l e (vroom 2 5 2526) s m _ below meth c D yv a ρ 194 (vsh w) A 1 _ 0 [xvr 0] [] σ
    rw [if_neg (by rw [hwb]; decide)] at hlk
    refine xs_aload hC (i := 0) (x := 0) dX10_takeDuel_0 rfl ?_
    refine xs_get hC (vfi w) (foX10 102 10 19 rfl) (cd := 3) (v := xvu) (sh0 w) rfl (by show va_rf (ρ 0 19) = _; rw [hlk]; rfl) (fun _ => trivial) dX10_takeDuel_1 ?_
    refine xs_ifnonnullN hC dX10_takeDuel_4 ?_
    refine xs_aload hC (i := 0) (x := 0) dX10_takeDuel_7 rfl ?_
    refine vs_new (mc := 4) (ms := 2513) hC hXX vB14 hwb q_4_141 q_4_142 q_1_23 (C := RX0) (T := TX0) (NN := 13) (ci := 0) (fs0 := fsX0) (ty0 := tyX0) rfl inGX0 tyX0_ok px_fsX0 dX10_takeDuel_8 dX10_takeDuel_11 (Nat.le_of_ble_eq_true rfl) (Nat.le_of_ble_eq_true rfl) (Nat.le_of_ble_eq_true rfl)
      (fun H1 locs1 ls g2 rest h1 h2 h3 => va_runIN (As := []) (n := 0) ⟨hC.1, hC.2.1, hC.2.2.1, hC.2.2.2.1, hC.2.2.2.2.1⟩ (ctX0 l D yv H1.size g2) ⟨va_cnB 0 hC.2.2.2.2.1 (px_gI q_4_145) rfl rfl rfl hXX.2.2 (hC.2.2.2.2.1 _ q_1_23) (by decide +kernel) ⟨(Nat.le_of_ble_eq_true rfl), (Nat.le_of_ble_eq_true rfl)⟩, rfl, (hC.2.2.2.2.1 _ q_4_144)⟩ h2 rfl rfl h1 rfl (by simpa using h3) dX10_takeDuel_12 ⟨(Nat.le_of_ble_eq_true rfl), (Nat.le_of_ble_eq_true rfl)⟩) (fun u hu => by
        simp only [List.mem_cons, List.not_mem_nil, or_false] at hu
        cases hu; rw [sh0]; rfl) (fun u hu => by
        simp only [List.mem_cons, List.not_mem_nil, or_false] at hu
        cases hu; rw [sh0]; rfl) (fun a1 ρ1 σ1 hout => ?_)
    have hout2 : ∀ t, blkV t ≠ 14 → a1 t = a t ∧ ρ1 t = ρ t ∧ σ1 t = σ t := fun t ht => hout t (vB_out vB14 ht)
    refine vs_putr (w := wOn w 14) (t := 0) (u := 189) (ty := .object "SevenTable$Duel") (T := TX10) (NN := 20) (ci := 10) (j := 19) hC rfl inGX10 tyX10_ok nmX10 (by decide) q_2_122 rfl (by decide +kernel) (fun _ => rfl) (fun _ => rfl) (sh0 _) rfl dX10_takeDuel_15 ?_
    have hLK2 := LK_on (b := 14) (x0 := 0) (j0 := 19) (tb := 189) hLK (fun t ht => ⟨(hout2 t ht).1, (hout2 t ht).2.1⟩) (Or.inr (Or.inr (Or.inr (Or.inr ⟨rfl, rfl, rfl, rfl⟩))))
    refine xs_aload hC (i := 0) (x := 0) dX10_takeDuel_18 rfl ?_
    refine xs_get hC (vfi (wOn w 14)) (foX10 102 10 19 rfl) (cd := 3) (v := xvr 189) (sh0 (wOn w 14)) rfl (by rfl) (fun _ => trivial) dX10_takeDuel_19 ?_
    exact vs_aret ⟨(Nat.le_of_ble_eq_true rfl), (Nat.le_of_ble_eq_true rfl)⟩ hC (Or.inl ⟨_, rfl⟩) hLK2 (fun t ht => (hout t (vOn_none vB14 hwb ht)).1) (by decide) (hQ σ1 (fun t ht => (hout2 t ht).2.2)) dX10_takeDuel_22
