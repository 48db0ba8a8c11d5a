theorem q_5_93 : Cond.methodLink RX10 333 yX1_read ∈ gw := gw_5 93 (by decide +kernel) rfl
theorem q_5_94 : Cond.instanceMethod yX1_read ∈ gw := gw_5 94 (by decide +kernel) rfl
theorem q_5_95 : Cond.selects RX1 yX1_read yX1_read ∈ gw := gw_5 95 (by decide +kernel) rfl
theorem q_5_96 : Cond.code yX1_read cX1_read 4 (some .boolean) ∈ gw := gw_5 96 (by decide +kernel) rfl
theorem dX10_play_147 : decode cX10_play 147 = .ok (.aload_n 0, 1) := by decide +kernel
theorem dX10_play_148 : decode cX10_play 148 = .ok (.getfield 70, 3) := by decide +kernel
theorem dX10_play_151 : decode cX10_play 151 = .ok (.aload_n 0, 1) := by decide +kernel
theorem dX10_play_152 : decode cX10_play 152 = .ok (.getfield 27, 3) := by decide +kernel
theorem dX10_play_155 : decode cX10_play 155 = .ok (.invokevirtual 223, 3) := by decide +kernel
theorem dX10_evening_13 : decode cX10_evening 13 = .ok (.aload_n 0, 1) := by decide +kernel
theorem dX10_evening_14 : decode cX10_evening 14 = .ok (.getfield 56, 3) := by decide +kernel
theorem dX10_evening_17 : decode cX10_evening 17 = .ok (.aload_n 0, 1) := by decide +kernel
theorem dX10_evening_18 : decode cX10_evening 18 = .ok (.getfield 9, 3) := by decide +kernel
theorem dX10_evening_21 : decode cX10_evening 21 = .ok (.aload_n 0, 1) := by decide +kernel
theorem dX10_evening_22 : decode cX10_evening 22 = .ok (.getfield 13, 3) := by decide +kernel
theorem dX10_evening_25 : decode cX10_evening 25 = .ok (.aload_n 0, 1) := by decide +kernel
theorem dX10_evening_26 : decode cX10_evening 26 = .ok (.getfield 23, 3) := by decide +kernel
theorem dX10_evening_29 : decode cX10_evening 29 = .ok (.invokevirtual 333, 3) := by decide +kernel
theorem dX10_evening_78 : decode cX10_evening 78 = .ok (.aload_n 0, 1) := by decide +kernel
theorem dX10_evening_79 : decode cX10_evening 79 = .ok (.getfield 70, 3) := by decide +kernel
theorem dX10_evening_82 : decode cX10_evening 82 = .ok (.aload_n 0, 1) := by decide +kernel
theorem dX10_evening_83 : decode cX10_evening 83 = .ok (.getfield 23, 3) := by decide +kernel
theorem dX10_evening_86 : decode cX10_evening 86 = .ok (.invokevirtual 223, 3) := by decide +kernel
theorem frsub {ts : List Nat} {σ σ' : xS} (f : Fr ts [1] σ σ') : Fr ts [1, 2] σ σ' := ⟨f.1, fun j hj => f.2 j (fun h => hj (by simp only [List.mem_cons, List.not_mem_nil, or_false] at h ⊢; omega))⟩
section XP
variable {p : Program} {l : Launch} {e : Env} {R : Room} {s : State} {m : MethodId} {args : Array Value} {below : List Frame} {meth : Method} {c : Code}
variable {cc : ByteArray} {nL d : Nat} {own : String} {D : va_G} {yv : Nat → ClassId} {a : Nat → Nat} {ρ : Nat → Nat → Option Nat} {N : Nat} {sh : xH} {A : Nat → Prop} {kz : Nat × Nat} {Qm : State → Prop} {ret : Option FieldType} {pc : Nat} {L st : List xV} {σ : xS}
/-- what a local holds is forgotten -/
theorem XA.forget (i : Nat) (k : XA kz p l e R s m args below meth c D yv a ρ N sh A nL Qm pc (L.set i xvu) st σ) : XA kz p l e R s m args below meth c D yv a ρ N sh A nL Qm pc L st σ := by
  intro h1 h2 h3 h4 H locs ls h5 h6 h7 h8
  refine k (fun v hv => ?_) h2 h3 (by rw [List.length_set]; exact h4) H locs ls h5 h6 h7 ⟨h8.1, h8.2.1, fun q hq => ?_⟩
  · rcases List.mem_or_eq_of_mem_set hv with hv | hv
    · exact h1 v hv
    · rw [hv]; exact trivial
  · obtain ⟨w, q1, q2, q3⟩ := xlv_mem hq
    rw [List.getElem?_set] at q1
    by_cases hi : i = q.1
    · rw [if_pos hi] at q1
      split at q1
      · cases q1; exact absurd rfl q2
      · cases q1
    · rw [if_neg hi] at q1
      have h9 := h8.2.2 _ (xlv_in (a := a) q1 q2)
      obtain ⟨q, v⟩ := q
      dsimp only at q3 h9 ⊢
      rw [q3]; exact h9
end XP
theorem v1_out {w : Nat → Bool} {τ : List Nat} (h : (xix τ 30).isSome = true) : ∀ t, xix τ t = none → shW wlVF1 w t = vsh w t := by
  intro t ht
  have h30 : t ≠ 30 := fun e => by subst e; rw [ht] at h; cases h
  show (if blkV t = 0 ∨ w (blkV t) = true then wlVF1[t]? else none) = (if blkV t = 0 ∨ w (blkV t) = true then wlVF0[t]? else none)
  rw [wlV1_ne h30]
set_option maxHeartbeats 4000000 in
set_option maxRecDepth 100000 in
theorem mvX10_play (l : Launch) (D : va_G) (yv : Nat → ClassId) : vMt l D yv yX10_play cX10_play 5 (some .int) 6 (fun _ => 13) (fun _ => 331) (pubE ar1 Rz) := by
  intro a ρ w sz as σ Q hE hLK hσ has
  obtain ⟨hJ, ⟨n0, rfl⟩, hQ⟩ := hE
  refine vEnter (N := 194) (sh := vsh w) (by decide +kernel) (Nat.le_of_ble_eq_true rfl) hσ has (fun p e s m below meth c hsz hXX hC => ?_)
  generalize va_A (xws a yv ρ 194 (vsh w) σ) sz = A at hC ⊢
  show XA (0, 0) p l e (vroom 6 ((fun _ => 13) w) ((fun _ => 331) w)) s m _ below meth c D yv a ρ 194 (vsh w) A 5 _ 0 [xvr 0, xvi n0, xvu, xvu, xvu] [] σ
  refine vTE (C := kX10_play_a w) (w := w) (w0 := w) (a0 := a) (mc := 13) (ms := 331) (Z := fun c L σ1 => ∃ (done : Int) (u : xV), Fr [2, 3, 4, 5, 6, 7, 8, 9, 10, 11, 12, 13, 14, 15, 16, 17, 18, 19, 20, 21, 22, 23, 24, 25, 26, 27, 43] [1] σ σ1 ∧ JG (xsel (g13 2) σ1) ∧ JG (xsel (g13 15) σ1) ∧ σ1 0 1 = 0 ∧ c = 147 ∧ L = [xvr 0, xvi n0, xvi 1, xvi done, u]) ⟨(Nat.le_of_ble_eq_true rfl), (Nat.le_of_ble_eq_true rfl)⟩ hC (zX10_play_a w) (fun v i n E he => (hX10_play_a w l D yv v i n E he).up (Nat.le_of_ble_eq_true rfl)) (Nat.le_of_ble_eq_true rfl) (Nat.le_of_ble_eq_true rfl) rfl hLK (fun _ _ => rfl) (pX10_play_a hJ.g hJ.1.1 (fun r σ1 f hr => ⟨(fun _ h => by cases h), hQ _ w σ1 (hJ.ga1 (frsub f) (by decide) hr.2 hr.1) ⟨⟨_, rfl⟩, hr.2, rfl, kw_fr f⟩⟩) (fun done u σ1 f h1 h2 h3 => ⟨done, u, f, h1, h2, h3, rfl, rfl⟩)) ?_
  rintro _ _ σ2 ⟨done, u, f, h1, h2, h3, rfl, rfl⟩
  have hJ2 : JW w σ2 := hJ.ga1 (frsub f) (by decide) h3 h1
  have hK2 : KT σ σ2 := kt_fr f
  refine XA.forget 4 ?_
  show XA _ p l e _ s m _ below meth c D yv a ρ 194 (vsh w) A 5 _ 147 [xvr 0, xvi n0, xvi 1, xvi done, xvu] [] σ2
  refine xs_aload hC (i := 0) (x := 0) dX10_play_147 rfl ?_
  refine xs_get hC (vfi w) (foX10 70 10 10 rfl) (cd := 43) (v := xvr 39) (sh0 w) rfl rfl (fun _ => trivial) dX10_play_148 ?_
  refine xs_aload hC (i := 0) (x := 0) dX10_play_151 rfl ?_
  refine xs_get hC (vfi w) (foX10 27 10 4 rfl) (cd := 19) (v := xvr 15) (sh0 w) rfl rfl (fun _ => trivial) dX10_play_152 ?_
  refine vs_callV (rest := []) (as' := [xvr 15]) (t := 39) (ci := 5) (n := 1) (codes := [44, 0, 0]) (K := fun r w' σ' => r = none ∧ keepR w σ2 w' σ') hC hXX (mvX5_keep l D yv) (Nat.le_of_ble_eq_true rfl) q_3_177 q_3_178 q_3_179 q_1_14 q_3_180 rfl rfl (by decide +kernel) (by decide) (Nat.le_of_ble_eq_true rfl) (Nat.le_of_ble_eq_true rfl) dX10_play_155 (sh39 _) rfl (by decide) hLK (vLp (by rfl)) (fun u hu => by cases hu) ⟨15, rfl, Or.inr rfl, hJ2.p, h2, fun w' σ' h => ⟨rfl, h⟩⟩ (fun r w1 a1 ρ1 σ1 hk hLK1 hag1 => ?_)
  obtain ⟨rfl, hR⟩ := hk
  refine vTE (C := kX10_play_b w1) (w := w1) (w0 := w) (a0 := a) (mc := 13) (ms := 331) (Z := fun _ _ _ => False) ⟨(Nat.le_of_ble_eq_true rfl), (Nat.le_of_ble_eq_true rfl)⟩ hC (zX10_play_b w1) (fun v i n E he => (hX10_play_b w1 l D yv v i n E he).up (Nat.le_of_ble_eq_true rfl)) (Nat.le_of_ble_eq_true rfl) (Nat.le_of_ble_eq_true rfl) rfl hLK1 hag1 (pX10_play_b (gv := xvi 1) (gu := xvu) (fun r σ3 f => ⟨(fun _ h => by cases h), hQ _ w1 σ3 (frJW (hJ2.keep hR) f) ⟨⟨_, rfl⟩, ((f.2 1 (by simp)).trans (congrFun (hR.2.2 0 (by omega) (by omega)) 1)).trans h3, hR.2.1 9 (by omega), kw_t (kw_l hK2 (kw_k hR)) (kt_fr f)⟩⟩)) (fun _ _ _ h => h.elim)
set_option maxHeartbeats 4000000 in
set_option maxRecDepth 100000 in
theorem mvX10_evening (l : Launch) (D : va_G) (yv : Nat → ClassId) : vMt l D yv yX10_evening cX10_evening 4 (some .int) 7 (fun _ => 13) (fun _ => 331) (pubE ar1 Rev) := by
  intro a ρ w sz as σ Q hE hLK hσ has
  obtain ⟨hJ, ⟨l0, rfl⟩, hQ⟩ := hE
  refine vEnter (N := 194) (sh := vsh w) (by decide +kernel) (Nat.le_of_ble_eq_true rfl) hσ has (fun p e s m below meth c hsz hXX hC => ?_)
  generalize va_A (xws a yv ρ 194 (vsh w) σ) sz = A at hC ⊢
  show XA (0, 0) p l e (vroom 7 ((fun _ => 13) w) ((fun _ => 331) w)) s m _ below meth c D yv a ρ 194 (vsh w) A 4 _ 0 [xvr 0, xvi l0, xvu, xvu] [] σ
  refine vTE (C := kX10_evening_a w) (w := w) (w0 := w) (a0 := a) (mc := 13) (ms := 331) (Z := fun c L σ1 => (0 ≤ l0 ∧ l0 ≤ 1) ∧ c = 13 ∧ L = [xvr 0, xvi l0, xvu, xvu] ∧ σ = σ1) ⟨(Nat.le_of_ble_eq_true rfl), (Nat.le_of_ble_eq_true rfl)⟩ hC (zX10_evening_a w) (fun v i n E he => (hX10_evening_a w l D yv v i n E he).up (Nat.le_of_ble_eq_true rfl)) (Nat.le_of_ble_eq_true rfl) (Nat.le_of_ble_eq_true rfl) rfl hLK (fun _ _ => rfl) (pX10_evening_a (fun r σ1 f hr => ⟨(fun _ h => by cases h), hQ _ w σ1 (frJW hJ f) ⟨⟨_, rfl⟩, (fun l9 h9 => by cases h9; exact ⟨fun h => by omega, fun _ => f.2 1 (by simp)⟩), rfl, kw_fr f⟩⟩) (fun h1 => ⟨h1, rfl, rfl, rfl⟩)) ?_
  rintro _ _ _ ⟨hl0, rfl, rfl, rfl⟩
  refine xs_aload hC (i := 0) (x := 0) dX10_evening_13 rfl ?_
  refine xs_get hC (vfi w) (foX10 56 10 8 rfl) (cd := 38) (v := xvr 34) (sh0 w) rfl rfl (fun _ => trivial) dX10_evening_14 ?_
  refine xs_aload hC (i := 0) (x := 0) dX10_evening_17 rfl ?_
  refine xs_get hC (vfi w) (foX10 9 10 0 rfl) (cd := 5) (v := xvr 1) (sh0 w) rfl rfl (fun _ => trivial) dX10_evening_18 ?_
  refine xs_aload hC (i := 0) (x := 0) dX10_evening_21 rfl ?_
  refine xs_get hC (vfi w) (foX10 13 10 1 rfl) (cd := 0) (v := xvi (σ 0 1)) (sh0 w) rfl rfl (fun hσ => (hσ.1 0 10 _ (sh0 w) 1 0 rfl).1 (Or.inl rfl)) dX10_evening_22 ?_
  refine xs_aload hC (i := 0) (x := 0) dX10_evening_25 rfl ?_
  refine xs_get hC (vfi w) (foX10 23 10 3 rfl) (cd := 6) (v := xvr 2) (sh0 w) rfl rfl (fun _ => trivial) dX10_evening_26 ?_
  refine xs_call2 (y := yX1_read) (τ := [34, 35, 30, 31, 1, 2, 3, 4, 5, 6, 7, 8, 9, 10, 11, 12, 13, 14]) (N' := 18) (sh' := shE0) (sh'2 := shE) (sh2 := shW wlVF1 w) (t := 34) (as' := [xvr 1, xvi (σ 0 1), xvr 2]) (rest := []) (n := 3) (ci := 1) (E := ERE) (K := fun r σ2 => ∃ z : Int, r = some (xvi z) ∧ Fr [30, 34, 35] [] σ σ2 ∧ RWx (σ2 35) (σ2 34 2) ∧ (0 ≤ σ2 34 2 ∧ σ2 34 2 ≤ 30)) hC (mX1_read l D yv) (Nat.le_of_ble_eq_true rfl) (subW0 (xsubB_ok (l' := wlE0) (l := wlVF0) (by decide +kernel)) (by decide)) (subW0 (xsubB_ok (l' := wlE) (l := wlVF1) (by decide +kernel)) (by decide)) (v1_out (by decide)) q_5_93 q_5_94 q_5_95 q_1_12 q_5_96 rfl rfl (by decide +kernel) (by decide) (vfi w) (Nat.le_of_ble_eq_true rfl) (Nat.le_of_ble_eq_true rfl) dX10_evening_29 (shW_of rfl (Or.inl rfl)) (by rfl) rfl (by decide) ?_ ?_
  · exact ERE_i hJ.1.1 hJ.g.1.1.1 hJ.g.1.1.2.1 (fun r σ' f p => ⟨r, rfl, f.bk (by decide) (by decide), p.1, p.2.1⟩)
  rintro r σ2 ⟨z, rfl, f2, hRW, h342⟩
  have hJ2 : JW w σ2 := hJ.ga f2 (by decide) (JG.fr2 hJ.g f2 (by decide))
  have hk9 : ∀ l9 : Int, [xvr 0, xvi l0] = [xvr 0, xvi l9] → ¬ (l9 < 0 ∨ 1 < l9) := fun l9 h9 => by cases h9; omega
  refine xTS_sG (C := kX10_evening_b w) (Q := fun _ _ => False) (Qc := vQ D yv a w A Q) (kq := (13, 331)) (Z := fun c L σ3 => ∃ f : Int, Fr [15, 16, 17, 18, 19, 20, 21, 22, 23, 24, 25, 26, 27, 44, 45] [1, 2] σ2 σ3 ∧ JG (xsel (g13 2) σ3) ∧ σ3 0 1 = 0 ∧ ((c = 53 ∧ L = [xvr 0, xvi l0, xvi f, xvu]) ∨ ∃ r : Int, (c = 78 ∧ L = [xvr 0, xvi l0, xvi f, xvi r] ∧ JG (xsel (g13 15) σ3)) ∨ (c = 115 ∧ L = [xvr 0, xvi l0, xvi f, xvi r]))) ⟨(Nat.le_of_ble_eq_true rfl), (Nat.le_of_ble_eq_true rfl)⟩ hC (zX10_evening_b w) (fun v i n E he => (hX10_evening_b w l D yv v i n E he).up (Nat.le_of_ble_eq_true rfl)) (Nat.le_of_ble_eq_true rfl) (Nat.le_of_ble_eq_true rfl) (fun _ _ _ h => h.elim) (pX10_evening_b hJ2.g hRW h342 (fun f σ3 g1 g2 g3 => ⟨f, g1, g2, g3, Or.inl ⟨rfl, rfl⟩⟩) (fun f r σ3 g1 g2 g4 g3 => ⟨f, g1, g2, g3, Or.inr ⟨r, Or.inl ⟨rfl, rfl, g4⟩⟩⟩) (fun f r σ3 g1 g2 g3 => ⟨f, g1, g2, g3, Or.inr ⟨r, Or.inr ⟨rfl, rfl⟩⟩⟩)) ?_
  rintro _ _ σ3 ⟨f, g1, g2, g3, hZ⟩
  have hJ3 : JW w σ3 := hJ2.ga1 g1 (by decide) g3 g2
  have hK3 : KT σ σ3 := (kt_fr f2).tr (kt_fr g1)
  have hLK3 := vTx_LK hLK
  refine vView ?_
  rcases hZ with ⟨rfl, rfl⟩ | ⟨r, ⟨rfl, rfl, g4⟩ | ⟨rfl, rfl⟩⟩
  · refine vTE (C := kX10_evening_c w) (w := w) (w0 := w) (a0 := a) (mc := 13) (ms := 331) (Z := fun _ _ _ => False) ⟨(Nat.le_of_ble_eq_true rfl), (Nat.le_of_ble_eq_true rfl)⟩ hC (zX10_evening_c w) (fun v i n E he => (hX10_evening_c w l D yv v i n E he).up (Nat.le_of_ble_eq_true rfl)) (Nat.le_of_ble_eq_true rfl) (Nat.le_of_ble_eq_true rfl) rfl hLK3 (fun _ _ => rfl) (pX10_evening_c (fun r σ4 f4 => ⟨(fun _ h => by cases h), hQ _ w σ4 (frJW hJ3 f4) ⟨⟨_, rfl⟩, (fun l9 h9 => ⟨fun _ => (f4.2 1 (by simp)).trans g3, fun h => absurd h (hk9 l9 h9)⟩), rfl, kw_w (hK3.tr (kt_fr f4))⟩⟩)) (fun _ _ _ h => h.elim)
  · skip
    refine xs_aload hC (i := 0) (x := 0) dX10_evening_78 rfl ?_
    refine xs_get hC (vfi w) (foX10 70 10 10 rfl) (cd := 43) (v := xvr 39) (sh0 w) rfl rfl (fun _ => trivial) dX10_evening_79 ?_
    refine xs_aload hC (i := 0) (x := 0) dX10_evening_82 rfl ?_
    refine xs_get hC (vfi w) (foX10 23 10 3 rfl) (cd := 6) (v := xvr 2) (sh0 w) rfl rfl (fun _ => trivial) dX10_evening_83 ?_
    refine vs_callV (rest := []) (as' := [xvr 2]) (t := 39) (ci := 5) (n := 1) (codes := [44, 0, 0]) (K := fun r w' σ' => r = none ∧ keepR w σ3 w' σ') hC hXX (mvX5_keep l D yv) (Nat.le_of_ble_eq_true rfl) q_3_177 q_3_178 q_3_179 q_1_14 q_3_180 rfl rfl (by decide +kernel) (by decide) (Nat.le_of_ble_eq_true rfl) (Nat.le_of_ble_eq_true rfl) dX10_evening_86 (sh39 _) rfl (by decide) hLK3 (vLp (by rfl)) (fun u hu => by cases hu) ⟨2, rfl, Or.inl rfl, hJ3.p, hJ3.g, fun w' σ' h => ⟨rfl, h⟩⟩ (fun r w1 a1 ρ1 σ1 hk hLK1 hag1 => ?_)
    obtain ⟨rfl, hR⟩ := hk
    refine vTE (C := kX10_evening_d w1) (w := w1) (w0 := w) (a0 := a) (mc := 13) (ms := 331) (Z := fun _ _ _ => False) ⟨(Nat.le_of_ble_eq_true rfl), (Nat.le_of_ble_eq_true rfl)⟩ hC (zX10_evening_d w1) (fun v i n E he => (hX10_evening_d w1 l D yv v i n E he).up (Nat.le_of_ble_eq_true rfl)) (Nat.le_of_ble_eq_true rfl) (Nat.le_of_ble_eq_true rfl) rfl hLK1 hag1 (pX10_evening_d (jg_sel (tb := 15) g4 (fun j hj => hR.2.2 _ (by omega) (by omega))) (fun r σ4 f4 hg => ⟨(fun _ h => by cases h), hQ _ w1 σ4 ((hJ3.keep hR).ga f4 (by decide) hg) ⟨⟨_, rfl⟩, (fun l9 h9 => ⟨fun _ => ((f4.2 1 (by simp)).trans (congrFun (hR.2.2 0 (by omega) (by omega)) 1)).trans g3, fun h => absurd h (hk9 l9 h9)⟩), hR.2.1 9 (by omega), kw_t (kw_l hK3 (kw_k hR)) (kt_fr f4)⟩⟩)) (fun _ _ _ h => h.elim)
  · refine vTE (C := kX10_evening_e w) (w := w) (w0 := w) (a0 := a) (mc := 13) (ms := 331) (Z := fun _ _ _ => False) ⟨(Nat.le_of_ble_eq_true rfl), (Nat.le_of_ble_eq_true rfl)⟩ hC (zX10_evening_e w) (fun v i n E he => (hX10_evening_e w l D yv v i n E he).up (Nat.le_of_ble_eq_true rfl)) (Nat.le_of_ble_eq_true rfl) (Nat.le_of_ble_eq_true rfl) rfl hLK3 (fun _ _ => rfl) (pX10_evening_e (fun r σ4 f4 => ⟨(fun _ h => by cases h), hQ _ w σ4 (frJW hJ3 f4) ⟨⟨_, rfl⟩, (fun l9 h9 => ⟨fun _ => (f4.2 1 (by simp)).trans g3, fun h => absurd h (hk9 l9 h9)⟩), rfl, kw_w (hK3.tr (kt_fr f4))⟩⟩)) (fun _ _ _ h => h.elim)
