theorem q_1_33 : Cond.instantiable RX2 18 ∈ gw := gw_1 33 (by decide +kernel) rfl
theorem q_1_35 : Cond.instanceMethod yX2_init ∈ gw := gw_1 35 (by decide +kernel) rfl
theorem q_1_36 : Cond.code yX2_init cX2_init 1 none ∈ gw := gw_1 36 (by decide +kernel) rfl
theorem q_2_88 : Cond.classLink RX5 9 RX2 ∈ gw := gw_2 88 (by decide +kernel) rfl
theorem q_3_181 : Cond.methodLink RX5 22 yX2_init ∈ gw := gw_3 181 (by decide +kernel) rfl
theorem q_3_182 : Cond.methodLink RX5 23 yX2_copyFrom ∈ gw := gw_3 182 (by decide +kernel) rfl
theorem dX5_keep_0 : decode cX5_keep 0 = .ok (.aload_n 0, 1) := by decide +kernel
theorem dX5_keep_1 : decode cX5_keep 1 = .ok (.getfield 11, 3) := by decide +kernel
theorem dX5_keep_4 : decode cX5_keep 4 = .ok (.aload_n 0, 1) := by decide +kernel
theorem dX5_keep_5 : decode cX5_keep 5 = .ok (.getfield 15, 3) := by decide +kernel
theorem dX5_keep_8 : decode cX5_keep 8 = .ok (.aaload, 1) := by decide +kernel
theorem dX5_keep_9 : decode cX5_keep 9 = .ok (.ifnonnull 19, 3) := by decide +kernel
theorem dX5_keep_12 : decode cX5_keep 12 = .ok (.aload_n 0, 1) := by decide +kernel
theorem dX5_keep_13 : decode cX5_keep 13 = .ok (.getfield 11, 3) := by decide +kernel
theorem dX5_keep_16 : decode cX5_keep 16 = .ok (.aload_n 0, 1) := by decide +kernel
theorem dX5_keep_17 : decode cX5_keep 17 = .ok (.getfield 15, 3) := by decide +kernel
theorem dX5_keep_20 : decode cX5_keep 20 = .ok (.new 9, 3) := by decide +kernel
theorem dX5_keep_23 : decode cX5_keep 23 = .ok (.dup, 1) := by decide +kernel
theorem dX5_keep_24 : decode cX5_keep 24 = .ok (.invokespecial 22, 3) := by decide +kernel
theorem dX5_keep_27 : decode cX5_keep 27 = .ok (.aastore, 1) := by decide +kernel
theorem dX5_keep_28 : decode cX5_keep 28 = .ok (.aload_n 0, 1) := by decide +kernel
theorem dX5_keep_29 : decode cX5_keep 29 = .ok (.getfield 11, 3) := by decide +kernel
theorem dX5_keep_32 : decode cX5_keep 32 = .ok (.aload_n 0, 1) := by decide +kernel
theorem dX5_keep_33 : decode cX5_keep 33 = .ok (.getfield 15, 3) := by decide +kernel
theorem dX5_keep_36 : decode cX5_keep 36 = .ok (.aaload, 1) := by decide +kernel
theorem dX5_keep_37 : decode cX5_keep 37 = .ok (.aload_n 1, 1) := by decide +kernel
theorem dX5_keep_38 : decode cX5_keep 38 = .ok (.invokevirtual 23, 3) := by decide +kernel
theorem dX5_keep_41 : decode cX5_keep 41 = .ok (.aload_n 0, 1) := by decide +kernel
theorem dX5_keep_42 : decode cX5_keep 42 = .ok (.aload_n 0, 1) := by decide +kernel
theorem dX5_keep_43 : decode cX5_keep 43 = .ok (.getfield 15, 3) := by decide +kernel
theorem dX5_keep_46 : decode cX5_keep 46 = .ok (.iconst 1, 1) := by decide +kernel
theorem dX5_keep_47 : decode cX5_keep 47 = .ok (.iadd, 1) := by decide +kernel
theorem dX5_keep_48 : decode cX5_keep 48 = .ok (.bipush 8, 2) := by decide +kernel
theorem dX5_keep_50 : decode cX5_keep 50 = .ok (.if_icmp .ge 12, 3) := by decide +kernel
theorem dX5_keep_53 : decode cX5_keep 53 = .ok (.aload_n 0, 1) := by decide +kernel
theorem dX5_keep_54 : decode cX5_keep 54 = .ok (.getfield 15, 3) := by decide +kernel
theorem dX5_keep_57 : decode cX5_keep 57 = .ok (.iconst 1, 1) := by decide +kernel
theorem dX5_keep_58 : decode cX5_keep 58 = .ok (.iadd, 1) := by decide +kernel
theorem dX5_keep_59 : decode cX5_keep 59 = .ok (.goto 4, 3) := by decide +kernel
theorem dX5_keep_62 : decode cX5_keep 62 = .ok (.iconst 0, 1) := by decide +kernel
theorem dX5_keep_63 : decode cX5_keep 63 = .ok (.putfield 15, 3) := by decide +kernel
theorem dX5_keep_66 : decode cX5_keep 66 = .ok (.aload_n 0, 1) := by decide +kernel
theorem dX5_keep_67 : decode cX5_keep 67 = .ok (.aload_n 0, 1) := by decide +kernel
theorem dX5_keep_68 : decode cX5_keep 68 = .ok (.getfield 19, 3) := by decide +kernel
theorem dX5_keep_71 : decode cX5_keep 71 = .ok (.iconst 1, 1) := by decide +kernel
theorem dX5_keep_72 : decode cX5_keep 72 = .ok (.iadd, 1) := by decide +kernel
theorem dX5_keep_73 : decode cX5_keep 73 = .ok (.bipush 8, 2) := by decide +kernel
theorem dX5_keep_75 : decode cX5_keep 75 = .ok (.invokestatic 27, 3) := by decide +kernel
theorem dX5_keep_78 : decode cX5_keep 78 = .ok (.putfield 19, 3) := by decide +kernel
theorem dX5_keep_81 : decode cX5_keep 81 = .ok (.return_, 1) := by decide +kernel
theorem bk1 {i : Nat} (hi : i < 8) : blkV (47 + 13 * i) = 1 + i := by
  unfold blkV
  rw [if_neg (by omega), if_pos (by omega)]
  omega
theorem bk2 {k : Nat} (hk : k < 2) : blkV (151 + 13 * k) = 9 + k := by
  unfold blkV
  rw [if_neg (by omega), if_neg (by omega), if_pos (by omega)]
  omega
theorem bk3 {k : Nat} (hk : k < 2) : blkV (177 + 2 * k) = 11 + k := by
  unfold blkV
  rw [if_neg (by omega), if_neg (by omega), if_neg (by omega), if_pos (by omega)]
  omega
theorem LK1 {a a' : Nat → Nat} {ρ ρ' : Nat → Nat → Option Nat} {w : Nat → Bool} {b x0 j0 tb x j c base : Nat} (hout : ∀ t, blkV t ≠ b → a' t = a t ∧ ρ' t = ρ t) (hb0 : b ≠ 0) (hx : blkV x = 0) (hbase : blkV base = c) (heq : (x = x0 ∧ j = j0) ↔ c = b) (htb : c = b → base = tb) (h : ρ x j = if w c = true then some (a base) else none) : (if x = x0 ∧ j = j0 then some (a' tb) else ρ' x j) = if wOn w b c = true then some (a' base) else none := by
  by_cases hc : c = b
  · rw [if_pos (heq.mpr hc), htb hc]
    have : wOn w b c = true := if_pos hc
    rw [if_pos this]
  · have h1 : ¬ (x = x0 ∧ j = j0) := fun e => hc (heq.mp e)
    have h2 : wOn w b c = w c := if_neg hc
    rw [if_neg h1, h2, (hout x (by rw [hx]; exact Ne.symm hb0)).2, h, (hout base (by rw [hbase]; exact hc)).1]
/-- the reference to a block has come to its place -/
theorem LK_on {a a' : Nat → Nat} {ρ ρ' : Nat → Nat → Option Nat} {w : Nat → Bool} {b x0 j0 tb : Nat} (h : LK a ρ w) (hout : ∀ t, blkV t ≠ b → a' t = a t ∧ ρ' t = ρ t) (hb : (∃ i, i < 8 ∧ b = 1 + i ∧ x0 = 40 ∧ j0 = i ∧ tb = 47 + 13 * i) ∨ (∃ k, k < 2 ∧ b = 9 + k ∧ x0 = 41 ∧ j0 = k ∧ tb = 151 + 13 * k) ∨ (∃ k, k < 2 ∧ b = 11 + k ∧ x0 = 42 ∧ j0 = k ∧ tb = 177 + 2 * k) ∨ (b = 13 ∧ x0 = 0 ∧ j0 = 18 ∧ tb = 181) ∨ (b = 14 ∧ x0 = 0 ∧ j0 = 19 ∧ tb = 189)) : LK a' (fun x j => if x = x0 ∧ j = j0 then some (a' tb) else ρ' x j) (wOn w b) := by
  have hb0 : b ≠ 0 := by
    rcases hb with ⟨i, h⟩ | ⟨i, h⟩ | ⟨i, h⟩ | h | h <;> omega
  refine ⟨fun i hi => LK1 hout hb0 rfl (bk1 hi) ?_ ?_ (h.1 i hi), fun i hi => LK1 hout hb0 rfl (bk2 hi) ?_ ?_ (h.2.1 i hi), fun i hi => LK1 hout hb0 rfl (bk3 hi) ?_ ?_ (h.2.2.1 i hi), LK1 (c := 13) (base := 181) hout hb0 rfl rfl ?_ ?_ h.2.2.2.1, LK1 (c := 14) (base := 189) hout hb0 rfl rfl ?_ ?_ h.2.2.2.2⟩
  all_goals (rcases hb with ⟨i, h⟩ | ⟨i, h⟩ | ⟨i, h⟩ | h | h <;> omega)
theorem vB_out {b : Nat} {τ : List Nat} {N' : Nat} {sh' : xH} (hB : vBlk b τ N' sh') {t : Nat} (h : blkV t ≠ b) : xix τ t = none := by
  cases hi : xix τ t with
  | none => rfl
  | some i => exact absurd (hB.2.2.1 t (List.mem_of_getElem? (xix_e hi))).2 h
theorem vBg {i : Nat} (hi : i < 8) : vBlk (1 + i) (g13 (47 + 13 * i)) 13 shG := by
  match i, hi with
  | 0, _ => exact vB1
  | 1, _ => exact vB2
  | 2, _ => exact vB3
  | 3, _ => exact vB4
  | 4, _ => exact vB5
  | 5, _ => exact vB6
  | 6, _ => exact vB7
  | 7, _ => exact vB8
theorem vBi {k : Nat} (hk : k < 2) : vBlk (9 + k) (g13 (151 + 13 * k)) 13 shG := by
  match k, hk with
  | 0, _ => exact vB9
  | 1, _ => exact vB10
theorem vBs {k : Nat} (hk : k < 2) : vBlk (11 + k) [177 + 2 * k, 177 + 2 * k + 1] 2 shN0 := by
  match k, hk with
  | 0, _ => exact vB11
  | 1, _ => exact vB12
/-- a game copied into another block -/
def cpB (tb sb : Nat) : Bool := xsubB (g13 tb ++ g13 sb) wlD wlVF0 && (xallB (g13 tb ++ g13 sb) [xvr tb, xvr sb] && (decide ([xvr tb, xvr sb].map (xdn (g13 tb ++ g13 sb)) = [xvr 0, xvr 13]) && ((List.range 13).all (fun k => decide (xix (g13 tb ++ g13 sb) (tb + k) = some k) && (decide (blkV (tb + k) = blkV tb) && decide (blkV (sb + k) = blkV sb))))))
theorem cpB_e {tb sb : Nat} (h : cpB tb sb = true) : xsubB (g13 tb ++ g13 sb) wlD wlVF0 = true ∧ xallB (g13 tb ++ g13 sb) [xvr tb, xvr sb] = true ∧ [xvr tb, xvr sb].map (xdn (g13 tb ++ g13 sb)) = [xvr 0, xvr 13] ∧ (∀ k, k < 13 → xix (g13 tb ++ g13 sb) (tb + k) = some k ∧ blkV (tb + k) = blkV tb ∧ blkV (sb + k) = blkV sb) := by
  unfold cpB at h
  simp only [Bool.and_eq_true, decide_eq_true_eq] at h
  refine ⟨h.1, h.2.1, h.2.2.1, fun k hk => ?_⟩
  have h1 := List.all_eq_true.mp h.2.2.2 k (List.mem_range.mpr hk)
  simp only [Bool.and_eq_true, decide_eq_true_eq] at h1
  exact ⟨h1.1, h1.2.1, h1.2.2⟩
theorem cpK : ∀ i, i < 8 → cpB (47 + 13 * i) 2 = true ∧ cpB (47 + 13 * i) 15 = true ∧ cpB 2 (47 + 13 * i) = true := by decide +kernel
theorem cpI : ∀ k, k < 2 → cpB (151 + 13 * k) 2 = true ∧ cpB 2 (151 + 13 * k) = true := by decide +kernel
theorem g13_mem {t tb : Nat} (h : t ∈ g13 tb) : ∃ k, k < 13 ∧ t = tb + k := by
  simp only [g13, List.mem_cons, List.not_mem_nil, or_false] at h
  rcases h with h | h | h | h | h | h | h | h | h | h | h | h | h
  · exact ⟨0, by omega, by omega⟩
  · exact ⟨1, by omega, by omega⟩
  · exact ⟨2, by omega, by omega⟩
  · exact ⟨3, by omega, by omega⟩
  · exact ⟨4, by omega, by omega⟩
  · exact ⟨5, by omega, by omega⟩
  · exact ⟨6, by omega, by omega⟩
  · exact ⟨7, by omega, by omega⟩
  · exact ⟨8, by omega, by omega⟩
  · exact ⟨9, by omega, by omega⟩
  · exact ⟨10, by omega, by omega⟩
  · exact ⟨11, by omega, by omega⟩
  · exact ⟨12, by omega, by omega⟩
theorem vCopyC {l : Launch} {D : va_G} {yv : Nat → ClassId} {own : String} {cc : ByteArray} {i tb sb : Nat} {w : Nat → Bool} (h : cpB tb sb = true) (h1 : Cond.methodLink own i yX2_copyFrom ∈ gw) (ht : blkV tb = 0 ∨ w (blkV tb) = true) (hs : blkV sb = 0 ∨ w (blkV sb) = true) : xCk l D yv own cc 3 194 (vsh w) true i 2 (xMV (vsh w) 2 (g13 tb ++ g13 sb) (xT kX2_copyFrom)) := by
  obtain ⟨a1, a2, a3, a4⟩ := cpB_e h
  refine xCk_MV (n := 1) (τ := g13 tb ++ g13 sb) (mX2_copyFrom l D yv) (subW (xsubB_ok (l' := wlD) (l := wlVF0) a1) (fun t ht2 => ?_)) h1 q_3_88 q_3_89 q_1_2 q_3_90 rfl rfl (by decide +kernel) (by decide) (vfi w)
  rcases List.mem_append.mp ht2 with h5 | h5
  · obtain ⟨k, h6, rfl⟩ := g13_mem h5
    rw [(a4 k h6).2.1]; exact ht
  · obtain ⟨k, h6, rfl⟩ := g13_mem h5
    rw [(a4 k h6).2.2]; exact hs
theorem vGame {tb : Nat} {w : Nat → Bool} {sb : Nat} (h : cpB tb sb = true) (ht : blkV tb = 0 ∨ w (blkV tb) = true) : ∃ codes, vsh w tb = some (0, 2, codes) := by
  have h1 := (xsubB_ok (l' := wlD) (l := wlVF0) (cpB_e h).1).2.2.2 0 _ rfl
  exact ⟨_, shW_of (l := wlVF0) h1.2 ht⟩
theorem vCopyE {σ : xS} {tb sb : Nat} {w : Nat → Bool} {K : Option xV → xS → Prop} (h : cpB tb sb = true) (ht : blkV tb = 0 ∨ w (blkV tb) = true) (hJ : JG (xsel (g13 sb) σ)) (hK : ∀ σ', (∀ t, t ∉ g13 tb → σ' t = σ t) → JG (xsel (g13 tb) σ') → K none σ') : xMV (vsh w) 2 (g13 tb ++ g13 sb) (xT kX2_copyFrom) [xvr tb, xvr sb] σ K := by
  obtain ⟨a1, a2, a3, a4⟩ := cpB_e h
  obtain ⟨codes, hc⟩ := vGame h ht
  refine xMVf hc a2 (fun Q2 hQ2 => ?_)
  rw [show (xvr tb :: [xvr sb]).map (xdn (g13 tb ++ g13 sb)) = [xvr 0, xvr 13] from a3]
  refine sX2_copyFrom (σ := xsel (g13 tb ++ g13 sb) σ) hJ.1.2.2.2 hJ.2.1 (fun ς f p => hQ2 _ _ ?_)
  have e : ∀ k, k < 13 → xbk (g13 tb ++ g13 sb) σ ς (tb + k) = ς k := by
    intro k hk
    unfold xbk
    rw [(a4 k hk).1]
  refine hK _ (fun t ht2 => ?_) (JG.cp hJ (fun i hi => ?_) (fun i hi => ?_) (fun i hi => ?_) ⟨?_, ?_, ?_, ?_, ?_⟩ ?_)
  · unfold xbk
    cases hx : xix (g13 tb ++ g13 sb) t with
    | none => rfl
    | some j =>
      have h5 := xix_e hx
      have hj : 13 ≤ j := by
        rcases Nat.lt_or_ge j 13 with h6 | h6
        · rw [List.getElem?_append_left (show j < (g13 tb).length from h6)] at h5
          exact absurd (List.mem_of_getElem? h5) ht2
        · exact h6
      show ς j = σ t
      rw [f.1 j (by omega) (by simp only [List.mem_cons, List.not_mem_nil, or_false]; omega)]
      show σ ((g13 tb ++ g13 sb).getD j 0) = σ t
      rw [xgetD h5]
  · show xbk (g13 tb ++ g13 sb) σ ς (tb + 2) i = _
    rw [e 2 (by omega)]; exact p.1 i hi
  · show xbk (g13 tb ++ g13 sb) σ ς (tb + 4) i = _
    rw [e 4 (by omega)]; exact p.2.1 i hi
  · show xbk (g13 tb ++ g13 sb) σ ς (tb + 10) i = _
    rw [e 10 (by omega)]; exact p.2.2.1 i hi
  · show xbk (g13 tb ++ g13 sb) σ ς (tb + 0) 0 = _
    rw [e 0 (by omega)]; exact p.2.2.2.1.1
  · show xbk (g13 tb ++ g13 sb) σ ς (tb + 0) 1 = _
    rw [e 0 (by omega)]; exact p.2.2.2.1.2.1
  · show xbk (g13 tb ++ g13 sb) σ ς (tb + 0) 2 = _
    rw [e 0 (by omega)]; exact p.2.2.2.1.2.2.1
  · show xbk (g13 tb ++ g13 sb) σ ς (tb + 0) 8 = _
    rw [e 0 (by omega)]; exact p.2.2.2.1.2.2.2.1
  · show xbk (g13 tb ++ g13 sb) σ ς (tb + 0) 9 = _
    rw [e 0 (by omega)]; exact p.2.2.2.1.2.2.2.2
  · show xbk (g13 tb ++ g13 sb) σ ς (tb + 9) 2 = _
    rw [e 9 (by omega)]; exact p.2.2.2.2
/-- Past and the kept games -/
def PV (w : Nat → Bool) (σ : xS) : Prop := (0 ≤ σ 39 1 ∧ σ 39 1 ≤ 7) ∧ (0 ≤ σ 39 2 ∧ σ 39 2 ≤ 8) ∧ ∀ i : Nat, i < 8 → w (1 + i) = true → JG (xsel (g13 (47 + 13 * i)) σ)
def keepR (w : Nat → Bool) (σ : xS) (w' : Nat → Bool) (σ' : xS) : Prop := PV w' σ' ∧ (∀ c, 9 ≤ c → w' c = w c) ∧ (∀ t, t ≠ 39 → (t < 47 ∨ 151 ≤ t) → σ' t = σ t)
def keepE : vE := fun w as σ Q => ∃ g : Nat, as = [xvr 39, xvr g] ∧ (g = 2 ∨ g = 15) ∧ PV w σ ∧ JG (xsel (g13 g) σ) ∧ ∀ w' σ', keepR w σ w' σ' → Q none w' σ'
theorem jg_sel {tb : Nat} {σ σ' : xS} (h : JG (xsel (g13 tb) σ)) (he : ∀ k, k < 13 → σ' (tb + k) = σ (tb + k)) : JG (xsel (g13 tb) σ') :=
  JG.of h (fun j => congrFun (he 0 (by omega)) j) (he 2 (by omega)) (he 4 (by omega)) (congrFun (he 9 (by omega)) 2) (he 10 (by omega))
theorem sh39 (w : Nat → Bool) : vsh w 39 = some (0, 5, [44, 0, 0]) := shW_of rfl (Or.inl rfl)
theorem sh40 (w : Nat → Bool) : vsh w 40 = some (5, 8, []) := shW_of rfl (Or.inl rfl)
section XP
variable {p : Program} {l : Launch} {e : Env} {R : Room} {s : State} {m : MethodId} {args : Array Value} {below : List Frame} {meth : Method} {c : Code}
variable {d : Nat} {D : va_G} {yv : Nat → ClassId} {a : Nat → Nat} {ρ : Nat → Nat → Option Nat} {A : Nat → Prop} {kz : Nat × Nat} {σ : xS}
set_option maxHeartbeats 4000000 in
set_option maxRecDepth 100000 in
theorem vKeep28 {w0 w : Nat → Bool} {a0 : Nat → Nat} {K : Option xV → (Nat → Bool) → xS → Prop} {mc ms i g : Nat} (hC : XC p R s m args meth c D yv A RX5 cX5_keep 2 d none) (hd : 3 ≤ d) (hkq : kz.1 ≤ mc ∧ kz.2 ≤ ms) (hk1 : kz.1 ≤ R.cells) (hk2 : kz.2 ≤ R.slots) (hi : i < 8) (hg : g = 2 ∨ g = 15) (hwi : w (1 + i) = true) (htop : σ 39 1 = i) (hsz : 0 ≤ σ 39 2 ∧ σ 39 2 ≤ 8) (hLK : LK a ρ w) (hag : ∀ t, (vsh w0 t).isSome = true → a t = a0 t) (hJ : JG (xsel (g13 g) σ))
    (hK : ∀ σ', (∀ t, t ≠ 39 → t ∉ g13 (47 + 13 * i) → σ' t = σ t) → JG (xsel (g13 (47 + 13 * i)) σ') → (0 ≤ σ' 39 1 ∧ σ' 39 1 ≤ 7) → (0 ≤ σ' 39 2 ∧ σ' 39 2 ≤ 8) → K none w σ') : XA kz p l e R s m args below meth c D yv a ρ 194 (vsh w) A 2 (MQ below (vQ D yv a0 w0 A K) args s mc ms A) 28 [xvr 39, xvr g] [] σ := by
  have hcp : cpB (47 + 13 * i) g = true := by rcases hg with rfl | rfl <;> first | exact (cpK i hi).1 | exact (cpK i hi).2.1
  have hbt : blkV (47 + 13 * i) = 0 ∨ w (blkV (47 + 13 * i)) = true := Or.inr (by rw [bk1 hi]; exact hwi)
  have hbg : blkV g = 0 ∨ w (blkV g) = true := Or.inl (by rcases hg with rfl | rfl <;> rfl)
  refine xs_aload hC (i := 0) (x := 39) dX5_keep_28 rfl ?_
  refine xs_get hC (vfi w) (foX5 11 5 0 rfl) (cd := 44) (v := xvr 40) (sh39 w) rfl rfl (fun _ => trivial) dX5_keep_29 ?_
  refine xs_aload hC (i := 0) (x := 39) dX5_keep_32 rfl ?_
  refine xs_get hC (vfi w) (foX5 15 5 1 rfl) (cd := 0) (v := xvi (σ 39 1)) (sh39 w) rfl rfl (fun hσ => (hσ.1 39 5 _ (sh39 w) 1 0 rfl).1 (Or.inl rfl)) dX5_keep_33 ?_
  refine xs_aaload hC (vfi w) (k := 4) (v := xvr (47 + 13 * i)) (Or.inl rfl) (sh40 w) ⟨by omega, by omega⟩ ⟨by omega, by omega⟩ (by rw [show (σ 39 1).toNat = i by omega, hLK.1 i hi, if_pos hwi]; rfl) trivial dX5_keep_36 ?_
  refine xs_aload hC (i := 1) (x := g) dX5_keep_37 rfl ?_
  refine xs_ck (v := true) (i := 23) (n := 2) (as := [xvr (47 + 13 * i), xvr g]) (rest := []) (K := fun r σ' => r = none ∧ (∀ t, t ∉ g13 (47 + 13 * i) → σ' t = σ t) ∧ JG (xsel (g13 (47 + 13 * i)) σ')) hC ((vCopyC hcp q_3_182 hbt hbg).up hd) hk1 hk2 dX5_keep_38 (vCopyE hcp hbt hJ (fun σ' h1 h2 => ⟨rfl, h1, h2⟩)) rfl (by decide) (fun r σ1 hk => ?_)
  obtain ⟨rfl, h1, h2⟩ := hk
  have h39 : σ1 39 = σ 39 := h1 39 (fun h => by obtain ⟨k, _, h⟩ := g13_mem h; omega)
  refine vTE (C := kX5_keep_b w) (Z := fun _ _ _ => False) hkq hC (zX5_keep_b w) (fun v i n E he => (hX5_keep_b w l D yv v i n E he).up (by omega)) hk1 hk2 rfl hLK hag (pX5_keep (by rw [h39]; omega) (by rw [h39]; exact hsz) (fun σ2 f p => ⟨(fun _ h => by cases h), ?_⟩)) (fun _ _ _ h => h.elim)
  have hu : ∀ t, t ≠ 39 → σ2 t = σ1 t := by
    intro t ht
    by_cases h0 : t = 0
    · subst h0
      funext j
      exact f.2 j (by simp)
    · exact f.1 t h0 (by simp [ht])
  refine hK σ2 (fun t h3 h4 => (hu t h3).trans (h1 t h4)) (jg_sel h2 (fun k hk => hu _ (by omega))) p.1 p.2
end XP
set_option maxHeartbeats 4000000 in
set_option maxRecDepth 100000 in
theorem mvX5_keep (l : Launch) (D : va_G) (yv : Nat → ClassId) : vMt l D yv yX5_keep cX5_keep 2 none 3 (fun _ => 13) (fun _ => 331) keepE := by
  intro a ρ w sz as σ Q hE hLK hσ has
  obtain ⟨g, rfl, hg, hPV, hJ, hQ⟩ := hE
  refine vEnter (N := 194) (sh := vsh w) (by decide +kernel) (Nat.le_of_ble_eq_true rfl) hσ has (fun p e s m below meth c hsz hXX hC => ?_)
  generalize va_A (xws a yv ρ 194 (vsh w) σ) sz = A at hC ⊢
  show XA (0, 0) p l e (vroom 3 13 331) s m _ below meth c D yv a ρ 194 (vsh w) A 2 _ 0 [xvr 39, xvr g] [] σ
  obtain ⟨⟨ht0, ht7⟩, hs8, hkg⟩ := hPV
  obtain ⟨i, hi, htop⟩ : ∃ i : Nat, i < 8 ∧ σ 39 1 = i := ⟨(σ 39 1).toNat, by omega, by omega⟩
  have hgs : ∀ (w : Nat → Bool) u, xvr u ∈ [xvr 39, xvr g] → (vsh w u).isSome = true := by
    intro w u hu
    simp only [List.mem_cons, List.not_mem_nil, or_false] at hu
    rcases hu with hu | hu
    · cases hu; rw [sh39]; rfl
    · cases hu; rcases hg with rfl | rfl <;> rfl
  refine xs_aload hC (i := 0) (x := 39) dX5_keep_0 rfl ?_
  refine xs_get hC (vfi w) (foX5 11 5 0 rfl) (cd := 44) (v := xvr 40) (sh39 w) rfl rfl (fun _ => trivial) dX5_keep_1 ?_
  refine xs_aload hC (i := 0) (x := 39) dX5_keep_4 rfl ?_
  refine xs_get hC (vfi w) (foX5 15 5 1 rfl) (cd := 0) (v := xvi (σ 39 1)) (sh39 w) rfl rfl (fun hσ => (hσ.1 39 5 _ (sh39 w) 1 0 rfl).1 (Or.inl rfl)) dX5_keep_5 ?_
  have hfin : ∀ (w' : Nat → Bool) (σ1 σ' : xS), w' (1 + i) = true → (∀ c, c ≠ 1 + i → w' c = w c) → (∀ t, blkV t ≠ 1 + i → σ1 t = σ t) → (∀ t, t ≠ 39 → t ∉ g13 (47 + 13 * i) → σ' t = σ1 t) → JG (xsel (g13 (47 + 13 * i)) σ') → (0 ≤ σ' 39 1 ∧ σ' 39 1 ≤ 7) → (0 ≤ σ' 39 2 ∧ σ' 39 2 ≤ 8) → Q none w' σ' := by
    intro w' σ1 σ' h1 h2 h3 h4 h5 h6 h7
    have hbl : ∀ k, k < 13 → blkV (47 + 13 * i + k) = 1 + i := fun k hk => by rw [((cpB_e (cpK i hi).1).2.2.2 k hk).2.1, bk1 hi]
    refine hQ w' σ' ⟨⟨h6, h7, fun i2 hi2 hw2 => ?_⟩, fun c hc => h2 c (by omega), fun t ht1 ht2 => ?_⟩
    · by_cases he : i2 = i
      · rw [he]; exact h5
      · have hbl2 : ∀ k, k < 13 → blkV (47 + 13 * i2 + k) = 1 + i2 := fun k hk => by rw [((cpB_e (cpK i2 hi2).1).2.2.2 k hk).2.1, bk1 hi2]
        refine jg_sel (hkg i2 hi2 (by rw [← h2 (1 + i2) (by omega)]; exact hw2)) (fun k hk => ?_)
        rw [h4 _ (by omega) (fun hm => ?_), h3 _ (by rw [hbl2 k hk]; omega)]
        obtain ⟨k3, hk3, hm⟩ := g13_mem hm
        have := hbl2 k hk
        rw [hm, hbl k3 hk3] at this
        omega
    · have hb : blkV t ≠ 1 + i := by
        unfold blkV
        rcases ht2 with h | h
        · rw [if_pos h]; omega
        · rw [if_neg (by omega), if_neg (by omega)]
          split
          · omega
          · split
            · omega
            · split <;> omega
      rw [h4 t ht1 (fun hm => ?_), h3 t hb]
      obtain ⟨k3, hk3, rfl⟩ := g13_mem hm
      exact hb (hbl k3 hk3)
  cases hwi : w (1 + i) with
  | true =>
    refine xs_aaload hC (vfi w) (k := 4) (v := xvr (47 + 13 * i)) (Or.inl rfl) (sh40 w) ⟨by omega, by omega⟩ ⟨by omega, by omega⟩ (by rw [show (σ 39 1).toNat = i by omega, hLK.1 i hi, if_pos hwi]; rfl) trivial dX5_keep_8 ?_
    refine xs_ifnonnull hC (tgt := 28) dX5_keep_9 rfl ?_
    exact vKeep28 hC (Nat.le_of_ble_eq_true rfl) ⟨(Nat.le_of_ble_eq_true rfl), (Nat.le_of_ble_eq_true rfl)⟩ (Nat.le_of_ble_eq_true rfl) (Nat.le_of_ble_eq_true rfl) hi hg hwi htop hs8 hLK (fun _ _ => rfl) hJ (fun σ' h4 h5 h6 h7 => hfin w σ σ' hwi (fun _ _ => rfl) (fun _ _ => rfl) h4 h5 h6 h7)
  | false =>
    refine xs_aaload hC (vfi w) (k := 4) (v := xvu) (Or.inl rfl) (sh40 w) ⟨by omega, by omega⟩ ⟨by omega, by omega⟩ (by rw [show (σ 39 1).toNat = i by omega, hLK.1 i hi, if_neg (by rw [hwi]; decide)]; rfl) trivial dX5_keep_8 ?_
    refine xs_ifnonnullN hC dX5_keep_9 ?_
    refine xs_aload hC (i := 0) (x := 39) dX5_keep_12 rfl ?_
    refine xs_get hC (vfi w) (foX5 11 5 0 rfl) (cd := 44) (v := xvr 40) (sh39 w) rfl rfl (fun _ => trivial) dX5_keep_13 ?_
    refine xs_aload hC (i := 0) (x := 39) dX5_keep_16 rfl ?_
    refine xs_get hC (vfi w) (foX5 15 5 1 rfl) (cd := 0) (v := xvi (σ 39 1)) (sh39 w) rfl rfl (fun hσ => (hσ.1 39 5 _ (sh39 w) 1 0 rfl).1 (Or.inl rfl)) dX5_keep_17 ?_
    refine vs_new (mc := 12) (ms := 313) hC hXX (vBg hi) hwi q_2_88 q_1_33 q_1_2 (C := RX2) (T := TX2) (NN := 18) (ci := 2) (fs0 := fsX2) (ty0 := tyX2) rfl inGX2 tyX2_ok px_fsX2v dX5_keep_20 dX5_keep_23 (Nat.le_of_ble_eq_true rfl) (Nat.le_of_ble_eq_true rfl) (Nat.le_of_ble_eq_true rfl)
      (fun H1 locs1 ls g2 rest h1 h2 h3 => va_runI (As := []) (n := 0) ⟨hC.1, hC.2.1, hC.2.2.1, hC.2.2.2.1, hC.2.2.2.2.1⟩ (ctX2 l D yv H1.size g2) (cwI 0 hC.2.2.2.2.1 (px_gI q_1_36) rfl rfl rfl (hC.2.2.2.2.1 _ q_1_2) (hC.2.2.2.2.1 _ q_3_181) (hC.2.2.2.2.1 _ q_1_35) rfl (by decide +kernel) ⟨(Nat.le_of_ble_eq_true rfl), (Nat.le_of_ble_eq_true rfl)⟩) h2 rfl rfl h1 rfl (by simpa using h3) dX5_keep_24 ⟨(Nat.le_of_ble_eq_true rfl), (Nat.le_of_ble_eq_true rfl)⟩) (hgs w) (fun u hu => by
        simp only [List.mem_cons, List.not_mem_nil, or_false] at hu
        rcases hu with hu | hu
        · cases hu
        · cases hu; rw [sh40]; rfl) (fun a1 ρ1 σ1 hout => ?_)
    have hout2 : ∀ t, blkV t ≠ 1 + i → a1 t = a t ∧ ρ1 t = ρ t ∧ σ1 t = σ t := fun t ht => hout t (vB_out (vBg hi) ht)
    have h39 : σ1 39 = σ 39 := (hout2 39 (by show 0 ≠ 1 + i; omega)).2.2
    have htn : (σ 39 1).toNat = i := by omega
    obtain ⟨codes, hcd⟩ := vGame (w := wOn w (1 + i)) (cpK i hi).1 (Or.inr (by rw [bk1 hi]; exact if_pos rfl))
    refine vs_aastore (k := 4) (n := 8) (ci := 2) hC (Or.inl rfl) (sh40 _) hcd rfl rfl ⟨by omega, by omega⟩ ⟨by omega, by omega⟩ dX5_keep_27 ?_
    rw [htn]
    refine vKeep28 hC (Nat.le_of_ble_eq_true rfl) ⟨(Nat.le_of_ble_eq_true rfl), (Nat.le_of_ble_eq_true rfl)⟩ (Nat.le_of_ble_eq_true rfl) (Nat.le_of_ble_eq_true rfl) hi hg (w := wOn w (1 + i)) (if_pos rfl) (by rw [h39]; exact htop) (by rw [h39]; exact hs8) (LK_on hLK (fun t ht => ⟨(hout2 t ht).1, (hout2 t ht).2.1⟩) (Or.inl ⟨i, hi, rfl, rfl, rfl, rfl⟩)) (fun t ht => ?_) (jg_sel hJ (fun k hk => (hout2 _ ?_).2.2)) (fun σ' h4 h5 h6 h7 => hfin _ σ1 σ' (if_pos rfl) (fun c hc => if_neg hc) (fun t ht => (hout2 t ht).2.2) h4 h5 h6 h7)
    · exact (hout t (vOn_none (vBg hi) hwi ht)).1
    · have : blkV (g + k) = 0 := by
        unfold blkV
        rw [if_pos (by rcases hg with rfl | rfl <;> omega)]
      rw [this]; omega
