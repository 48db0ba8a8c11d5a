theorem q_1_25 : Cond.instantiable RX10 20 ∈ gw := gw_1 25 (by decide +kernel) rfl
theorem q_6_91 : Cond.instantiable RX11 65 ∈ gw := gw_6 91 (by decide +kernel) rfl
theorem tbm_1 {w : Cond} (i : Nat) (h : tables_1_1[i]? = some w) : w ∈ lw_tbl := List.mem_append_right _ (List.mem_append_left _ (List.mem_of_getElem? h))
theorem tbm_2 {w : Cond} (i : Nat) (h : tables_1_2[i]? = some w) : w ∈ lw_tbl := List.mem_append_right _ (List.mem_append_right _ (List.mem_append_left _ (List.mem_of_getElem? h)))
theorem tbm_3 {w : Cond} (i : Nat) (h : tables_1_3[i]? = some w) : w ∈ lw_tbl := List.mem_append_right _ (List.mem_append_right _ (List.mem_append_right _ (List.mem_append_left _ (List.mem_of_getElem? h))))
theorem tbm_4 {w : Cond} (i : Nat) (h : tables_1_4[i]? = some w) : w ∈ lw_tbl := List.mem_append_right _ (List.mem_append_right _ (List.mem_append_right _ (List.mem_append_right _ (List.mem_append_left _ (List.mem_of_getElem? h)))))
theorem tbm_5 {w : Cond} (i : Nat) (h : tables_1_5[i]? = some w) : w ∈ lw_tbl := List.mem_append_right _ (List.mem_append_right _ (List.mem_append_right _ (List.mem_append_right _ (List.mem_append_right _ (List.mem_append_left _ (List.mem_of_getElem? h))))))
theorem tbm_6 {w : Cond} (i : Nat) (h : tables_1_6[i]? = some w) : w ∈ lw_tbl := List.mem_append_right _ (List.mem_append_right _ (List.mem_append_right _ (List.mem_append_right _ (List.mem_append_right _ (List.mem_append_right _ (List.mem_append_left _ (List.mem_of_getElem? h)))))))
theorem tbm_7 {w : Cond} (i : Nat) (h : tables_1_7[i]? = some w) : w ∈ lw_tbl := List.mem_append_right _ (List.mem_append_right _ (List.mem_append_right _ (List.mem_append_right _ (List.mem_append_right _ (List.mem_append_right _ (List.mem_append_right _ (List.mem_append_left _ (List.mem_of_getElem? h))))))))
theorem tbm_8 {w : Cond} (i : Nat) (h : tables_1_8[i]? = some w) : w ∈ lw_tbl := List.mem_append_right _ (List.mem_append_right _ (List.mem_append_right _ (List.mem_append_right _ (List.mem_append_right _ (List.mem_append_right _ (List.mem_append_right _ (List.mem_append_right _ (List.mem_append_left _ (List.mem_of_getElem? h)))))))))
theorem tbm_9 {w : Cond} (i : Nat) (h : tables_1_9[i]? = some w) : w ∈ lw_tbl := List.mem_append_right _ (List.mem_append_right _ (List.mem_append_right _ (List.mem_append_right _ (List.mem_append_right _ (List.mem_append_right _ (List.mem_append_right _ (List.mem_append_right _ (List.mem_append_right _ (List.mem_of_getElem? h)))))))))
theorem px_ac {args : Array Value} {s : State} {ty : FieldType} (h : (Cond.arrayClass ty).before args s = true) : ∃ cA : ClassId, s.vm.findClass ("[" ++ ty.toString) = some cA ∧ ArrOfT s cA ty := by
  obtain ⟨c, k, comp, h1, h2, h3⟩ := Cond.arrayClass_spec h
  exact ⟨c, h1, fun n z => ⟨(fun k h => by cases h), k, h2, comp, h3⟩⟩
theorem px_ao {args : Array Value} {s : State} {C : String} (h : (Cond.arrayOver (.object C)).before args s = true) : ∃ cA : ClassId, va_RA s cA (.object C) ∧ ArrOfT s cA (.object C) := by
  obtain ⟨comp, c, k, h1, -, h2, h3, h4⟩ := Cond.arrayOver_spec h
  exact ⟨c, ⟨k, comp, h2, h3, h1, h4⟩, fun n z => ⟨(fun k h => by cases h), k, h2, comp, h3⟩⟩
set_option maxRecDepth 100000 in
theorem px_kn {args : Array Value} {s : State} (hg : ∀ w ∈ gw, w.before args s = true) : ∃ D : va_G, ∀ (c : Nat) (q : vw_C), vwCl[c]? = some q → u_Kn s q.1 q.2.1 q.2.2 (D.1 c) (D.2 c) := by
  obtain ⟨c0, i0, h0⟩ := u_known (C := RX0) (T := TX0) (N := 13) (n := 13) hg inGX0 (hg _ q_4_142)
  obtain ⟨c1, i1, h1⟩ := u_known (C := RX1) (T := TX1) (N := 3) (n := 3) hg inGX1 (hg _ q_2_46)
  obtain ⟨c2, i2, h2⟩ := u_known (C := RX2) (T := TX2) (N := 18) (n := 18) hg inGX2 (hg _ q_1_33)
  obtain ⟨c3, i3, h3⟩ := u_known (C := RX3) (T := TX3) (N := 4) (n := 4) hg inGX3 (hg _ q_1_39)
  obtain ⟨c4, i4, h4⟩ := u_known (C := RX4) (T := TX4) (N := 10) (n := 10) hg inGX4 (hg _ q_4_3)
  obtain ⟨c5, i5, h5⟩ := u_known (C := RX5) (T := TX5) (N := 3) (n := 3) hg inGX5 (hg _ q_2_83)
  obtain ⟨c6, i6, h6⟩ := u_known (C := RX6) (T := TX6) (N := 11) (n := 11) hg inGX6 (hg _ q_1_166)
  obtain ⟨c7, i7, h7⟩ := u_known (C := RX7) (T := TX7) (N := 2) (n := 2) hg inGX7 (hg _ q_1_152)
  obtain ⟨c8, i8, h8⟩ := u_known (C := RX8) (T := TX8) (N := 3) (n := 3) hg inGX8 (hg _ q_2_63)
  obtain ⟨c9, i9, h9⟩ := u_known (C := RX9) (T := TX9) (N := 4) (n := 4) hg inGX9 (hg _ q_2_26)
  obtain ⟨c10, i10, h10⟩ := u_known (C := RX10) (T := TX10) (N := 20) (n := 20) hg inGX10 (hg _ q_1_25)
  obtain ⟨c11, i11, h11⟩ := u_known (C := RX11) (T := TX11) (N := 65) (n := 65) hg inGX11 (hg _ q_6_91)
  refine ⟨(fun k => [c0, c1, c2, c3, c4, c5, c6, c7, c8, c9, c10, c11].getD k 0, fun k => [i0, i1, i2, i3, i4, i5, i6, i7, i8, i9, i10, i11].getD k (fun _ => 0)), ?_⟩
  intro k q hq
  match k, hq with
  | 0, hq => cases hq; exact h0
  | 1, hq => cases hq; exact h1
  | 2, hq => cases hq; exact h2
  | 3, hq => cases hq; exact h3
  | 4, hq => cases hq; exact h4
  | 5, hq => cases hq; exact h5
  | 6, hq => cases hq; exact h6
  | 7, hq => cases hq; exact h7
  | 8, hq => cases hq; exact h8
  | 9, hq => cases hq; exact h9
  | 10, hq => cases hq; exact h10
  | 11, hq => cases hq; exact h11
  | k + 12, hq => simp [vwCl] at hq
theorem px_ty {args : Array Value} {s : State} (hts : ∀ w ∈ lw_tbl, w.before args s = true) : ∃ y : Nat → ClassId, ∀ (k : Nat) (q : ClassId × FieldType), (px_tys y)[k]? = some q → ArrOfT s q.1 q.2 ∧ va_RA s q.1 q.2 := by
  obtain ⟨c0, f0, a0⟩ := px_ac (hts (.arrayClass .byte) (tbm_1 58 (by decide +kernel)))
  obtain ⟨c1, f1, a1⟩ := px_ac (hts (.arrayClass .int) (tbm_1 60 (by decide +kernel)))
  obtain ⟨c2, f2, a2⟩ := px_ac (hts (.arrayClass .long) (tbm_1 59 (by decide +kernel)))
  obtain ⟨c3, f3, a3⟩ := px_ac (hts (.arrayClass .boolean) (tbm_7 78 (by decide +kernel)))
  obtain ⟨c4, f4, a4⟩ := px_ao (hts (.arrayOver (.object "SevenTable$Game")) (tbm_2 89 (by decide +kernel)))
  obtain ⟨c5, f5, a5⟩ := px_ao (hts (.arrayOver (.object "SevenTable$Sentence")) (tbm_2 101 (by decide +kernel)))
  refine ⟨fun k => [c0, c1, c2, c3, c4, c5].getD k 0, ?_⟩
  intro k q hq
  match k, hq with
  | 0, hq => cases hq; exact ⟨a0, f0⟩
  | 1, hq => cases hq; exact ⟨a1, f1⟩
  | 2, hq => cases hq; exact ⟨a2, f2⟩
  | 3, hq => cases hq; exact ⟨a3, f3⟩
  | 4, hq => cases hq; exact ⟨a4, f4⟩
  | 5, hq => cases hq; exact ⟨a5, f5⟩
  | k + 6, hq => simp at hq
def px_bytes : List Int32 := [107, 105, 110, 100, 115, 32, 112, 101, 114, 115, 111, 110, 32, 104, 97, 110, 100, 32, 104, 101, 97, 112, 32, 97, 103, 97, 105, 110, 32, 114, 101, 102, 105, 108, 108, 32, 97, 115, 107, 115, 32, 103, 105, 118, 101, 115, 32, 110, 111, 32, 111, 114, 32, 97, 110, 100, 32, 110, 111, 116, 32, 98, 111, 111, 107, 32, 107, 110, 111, 119, 110, 32, 104, 101, 108, 100, 32, 104, 97, 110, 100, 115, 32, 104, 101, 97, 112, 101, 100, 32, 109, 111, 115, 116, 32, 112, 108, 97, 99, 101, 32]
theorem px_g_ex : Cond.exactly (.string "SevenTable$Reader" 48) "java/lang/String" ∈ flatC (Jvm.Cond.and given_1 narrow_1) := by decide +kernel
theorem px_g_ex1 : Cond.exactly (.string "SevenTable" 147) "java/lang/String" ∈ flatC (Jvm.Cond.and given_1 narrow_1) := by decide +kernel
theorem px_g_ex2 : Cond.exactly (.string "SevenTable" 243) "java/lang/String" ∈ flatC (Jvm.Cond.and given_1 narrow_1) := by decide +kernel
theorem px_g_ex3 : Cond.exactly (.string "SevenTable" 269) "java/lang/String" ∈ flatC (Jvm.Cond.and given_1 narrow_1) := by decide +kernel
theorem px_g_ex4 : Cond.exactly (.string "SevenTable" 255) "java/lang/String" ∈ flatC (Jvm.Cond.and given_1 narrow_1) := by decide +kernel
theorem px_g_ex5 : Cond.exactly (.string "SevenTable" 271) "java/lang/String" ∈ flatC (Jvm.Cond.and given_1 narrow_1) := by decide +kernel
theorem px_g_co : Cond.eq (.field (.string "SevenTable$Reader" 48) "java/lang/String" "coder" "B") (.int 0) ∈ flatC (Jvm.Cond.and given_1 narrow_1) := by decide +kernel
theorem px_g_ar : Cond.arrayOf (.field (.string "SevenTable$Reader" 48) "java/lang/String" "value" "[B") .byte ∈ flatC (Jvm.Cond.and given_1 narrow_1) := by decide +kernel
theorem px_g_le : Cond.eq (.length (.field (.string "SevenTable$Reader" 48) "java/lang/String" "value" "[B")) (.int 101) ∈ flatC (Jvm.Cond.and given_1 narrow_1) := by decide +kernel
theorem px_g_cs : Cond.eq (.static "java/lang/String" "COMPACT_STRINGS" "Z") (.int 1) ∈ flatC (Jvm.Cond.and given_1 narrow_1) := by decide +kernel
theorem px_g_si : Cond.isRef (.static "jdk/internal/util/Preconditions" "SIOOBE_FORMATTER" "Ljava/util/function/BiFunction;") ∈ flatC (Jvm.Cond.and given_1 narrow_1) := by decide +kernel
theorem px_g_us : Cond.isRef (.static "java/lang/Throwable" "UNASSIGNED_STACK" "[Ljava/lang/StackTraceElement;") ∈ flatC (Jvm.Cond.and given_1 narrow_1) := by decide +kernel
theorem px_g_ss : Cond.isRef (.static "java/lang/Throwable" "SUPPRESSED_SENTINEL" "Ljava/util/List;") ∈ flatC (Jvm.Cond.and given_1 narrow_1) := by decide +kernel
theorem px_g_el : ∀ j, j < 101 → Cond.eq (.elem (.field (.string "SevenTable$Reader" 48) "java/lang/String" "value" "[B") (.int (Int32.ofNat j))) (.int (px_bytes.getD j 0)) ∈ flatC (Jvm.Cond.and given_1 narrow_1) := by decide +kernel
set_option maxRecDepth 100000 in
theorem px_st {s : State} {b : Nat} (hts : ∀ w ∈ lw_tbl, w.before #[Value.ref b] s = true) (hgv : (Jvm.Cond.and given_1 narrow_1).before #[Value.ref b] s = true) : ∃ (ad : Nat → Nat) (bb : Nat → Int32), px_Y ad bb (fun q => s.heap.size ≤ q) s s.heap ∧ vY ad (fun q => s.heap.size ≤ q) s s.heap ∧ bb = fun j => px_bytes.getD j 0 := by
  have hs := flat_of_before _ hgv
  have hA : ∀ a : Nat, a < s.heap.size → ¬ (fun q => s.heap.size ≤ q) a := fun a h => Nat.not_le.mpr h
  obtain ⟨adK, adV, hSt, hev⟩ := vk_Sof (args := #[Value.ref b]) (s := s) (N := 1) (tm := fun _ => .string "SevenTable$Reader" 48) (len := [101]) (byt := [px_bytes]) (A := fun q => s.heap.size ≤ q) (fun i hi => by obtain rfl : i = 0 := (by omega); decide) (fun _ _ => hs _ px_g_ex) (fun _ _ => hs _ px_g_co) (fun _ _ => hs _ px_g_ar) (fun i hi => by obtain rfl : i = 0 := (by omega); exact hs _ px_g_le) (fun i hi j hj => by obtain rfl : i = 0 := (by omega); exact hs _ (px_g_el j hj)) (fun i j hi hj h => absurd (by omega : i = j) h) hA
  obtain ⟨a2, -, -, -, e2, -⟩ := Cond.exactly_spec (hs _ px_g_ex1)
  obtain ⟨a3, -, -, -, e3, -⟩ := Cond.exactly_spec (hs _ px_g_ex2)
  obtain ⟨a4, -, -, -, e4, -⟩ := Cond.exactly_spec (hs _ px_g_ex3)
  obtain ⟨a5, -, -, -, e5, -⟩ := Cond.exactly_spec (hs _ px_g_ex4)
  obtain ⟨a6, -, -, -, e6, -⟩ := Cond.exactly_spec (hs _ px_g_ex5)
  obtain ⟨t1, t2, t3, t4⟩ := hSt.1 0 (by decide)
  refine ⟨fun k => [adK 0, adV 0, a2, a3, a4, a5, a6].getD k 0, fun j => px_bytes.getD j 0, ?_⟩
  have hY : px_Y (fun k => [adK 0, adV 0, a2, a3, a4, a5, a6].getD k 0) (fun j => px_bytes.getD j 0) (fun q => s.heap.size ≤ q) s s.heap := by
    refine ⟨⟨va_AO.of (hts (.arrayOver (.object "SevenTable$Game")) (tbm_2 89 (by decide +kernel))), va_AO.of (hts (.arrayOver (.object "SevenTable$Sentence")) (tbm_2 101 (by decide +kernel))), va_Nw.of rfl (hts (.methodLinkNest "SevenTable$Game" 68 ⟨"SevenTable$Knowledge", "<init>", "()V"⟩ "SevenTable") (tbm_1 40 (by decide +kernel))), va_Nw.of rfl (hts (.methodLinkNest "SevenTable" 32 ⟨"SevenTable$Sentence", "<init>", "()V"⟩ "SevenTable") (tbm_1 153 (by decide +kernel))), va_Nw.of rfl (hts (.methodLinkNest "SevenTable$SentenceText" 11 ⟨"SevenTable$Sentence", "<init>", "()V"⟩ "SevenTable") (tbm_2 69 (by decide +kernel))), va_Nw.of rfl (hts (.methodLinkNest "SevenTable" 69 ⟨"SevenTable$Past", "<init>", "()V"⟩ "SevenTable") (tbm_2 84 (by decide +kernel)))⟩, ⟨t1, t2, t3, t4, ?_, ?_⟩, ⟨?_, ?_, ?_, ?_⟩, ⟨?_, ?_, ?_, ?_, ?_, ?_⟩⟩
    · exact va_Zof (hts (.laysStatic "java/lang/String" "COMPACT_STRINGS" "Z") (tbm_1 181 (by decide +kernel))) (hts (.initialized "java/lang/String") (tbm_1 7 (by decide +kernel))) (va_eqi (hs _ px_g_cs)) hA
    · exact va_Zqof (hts (.laysStatic "jdk/internal/util/Preconditions" "SIOOBE_FORMATTER" "Ljava/util/function/BiFunction;") (tbm_1 197 (by decide +kernel))) (hts (.initialized "jdk/internal/util/Preconditions") (tbm_1 9 (by decide +kernel))) (hs _ px_g_si) hA
    · exact vk_R.of (hts (.stringRef "SevenTable$Reader" 48 "kinds person hand heap again refill asks gives no or and not book known held hands heaped most place ") (tbm_1 171 (by decide +kernel))) (hev 0 (by decide))
    · exact vk_R.of (hts (.stringRef "SevenTable" 147 "no such person or kind") (tbm_6 32 (by decide +kernel))) e2
    · exact vk_R.of (hts (.stringRef "SevenTable" 243 "no such persons, kind or part") (tbm_6 65 (by decide +kernel))) e3
    · exact vk_R.of (hts (.stringRef "SevenTable" 269 "no such person, kind or part") (tbm_6 78 (by decide +kernel))) e4
    · exact vx_Zqof (hts (.laysStatic "java/lang/Throwable" "UNASSIGNED_STACK" "[Ljava/lang/StackTraceElement;") (tbm_6 20 (by decide +kernel))) (hts (.initialized "java/lang/Throwable") (tbm_1 18 (by decide +kernel))) (hs _ px_g_us) hA
    · exact vx_Zqof (hts (.laysStatic "java/lang/Throwable" "SUPPRESSED_SENTINEL" "Ljava/util/List;") (tbm_6 22 (by decide +kernel))) (hts (.initialized "java/lang/Throwable") (tbm_1 18 (by decide +kernel))) (hs _ px_g_ss) hA
    · exact va_Nw.of rfl (hts (.declares ⟨"java/lang/RuntimeException", "<init>", "(Ljava/lang/String;)V"⟩) (tbm_5 237 (by decide +kernel)))
    · exact va_Nw.of rfl (hts (.declares ⟨"java/lang/Exception", "<init>", "(Ljava/lang/String;)V"⟩) (tbm_5 239 (by decide +kernel)))
    · exact va_Nw.of rfl (hts (.declares ⟨"java/lang/Throwable", "<init>", "(Ljava/lang/String;)V"⟩) (tbm_6 1 (by decide +kernel)))
    · exact va_Nw.of rfl (hts (.castable "java/util/NoSuchElementException" "java/util/NoSuchElementException") (tbm_5 235 (by decide +kernel)))
  exact ⟨hY, ⟨⟨hY.1, va_Nw.of rfl (hts (.methodLinkNest "SevenTable" 380 ⟨"SevenTable$Odds", "<init>", "()V"⟩ "SevenTable") (tbm_4 4 (by decide +kernel))), va_Nw.of rfl (hts (.methodLinkNest "SevenTable" 381 ⟨"SevenTable$Duel", "<init>", "()V"⟩ "SevenTable") (tbm_4 143 (by decide +kernel)))⟩, ⟨hY.2.2.1.2.1, hY.2.2.1.2.2.1, hY.2.2.1.2.2.2, vk_R.of (hts (.stringRef "SevenTable" 255 "too much is unseen, or there is no way") (tbm_6 66 (by decide +kernel))) e5, vk_R.of (hts (.stringRef "SevenTable" 271 "the heap is empty") (tbm_6 79 (by decide +kernel))) e6⟩, hY.2.2.2⟩, rfl⟩
