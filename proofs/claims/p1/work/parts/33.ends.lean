set_option maxRecDepth 100000 in
/-- behind the one call: the loop ends, the law answers 1 -/
theorem law_end {p : Program} {l : Launch} {e : Env} {s : State} {m : MethodId} {below : List Frame} {meth : Method} {c : Code} {b : Nat} {xs : Nat → Int32} {A : Nat → Prop} (C0 : lw_At p s m meth c b 6 xs) (hAe : (fun q : Nat => s.heap.size ≤ q) = A) {H : Heap} {locs : List Loc} {ls : Array Slot} (hS : va_S A s.heap H locs) (hl : lv_has ls 8 [(4, .int 0), (0, .ref b)]) : W p l e room_1 s m #[Value.ref b] below meth c H locs 600002 7302232 (lw_Z below #[Value.ref b] s) (F0 m 1472 ls []) := by
  obtain ⟨hx, hb, hr, hml, hown, hts, hX, hbl, hlocks, hgv⟩ := id C0
  have hbA : ¬ A b := by rw [← hAe]; exact Nat.not_le.mpr hbl
  refine lv_iinc (v := 6) (lv' := [(4, .int 6), (0, .ref b)]) hx hb dL_law_1472 hl (k := 0) rfl (by decide) (by decide) rfl (fun ls hl => ?_)
  refine lv_goto (tgt := 23) hx hb dL_law_1475 (by decide) ?_
  refine lv_iload hx hb dL_law_23 (lv_at hl 0 rfl) ?_
  refine lv_aload_n hx hb dL_law_25 rfl (lv_at hl 1 rfl) ?_
  refine va_slen hx hb hX hbl hbA hS dL_law_26 ?_
  refine px_top (v := 6) rfl ?_
  refine lv_bipush (v := 6) hx hb dL_law_27 (by decide) ?_
  refine lv_isub hx hb dL_law_29 ?_
  refine px_top (v := 0) (by decide) ?_
  refine lv_icmp_gt (tgt := 1478) hx hb dL_law_30 (by decide) (fun _ => ?_) (fun h => absurd (by decide) h)
  refine lv_iconst (v := 1) hx hb dL_law_1478 (by decide) ?_
  refine va_forget (fun q hq => by have z := hS.2.2 q hq; rw [← hAe] at z; exact z) ?_
  exact lw_ret hx hb hr hlocks dL_law_1479
set_option maxRecDepth 100000 in
/-- a script of fewer than six ints: no call at all -/
theorem law_exit {p : Program} {l : Launch} {e : Env} {s : State} {m : MethodId} {below : List Frame} {meth : Method} {c : Code} {b L : Nat} {xs : Nat → Int32} {A : Nat → Prop} (hL6 : L < 6) (C0 : lw_At p s m meth c b L xs) (hAe : (fun q : Nat => s.heap.size ≤ q) = A) {H : Heap} {locs : List Loc} {ls : Array Slot} (hS : va_S A s.heap H locs) (hl : lv_has ls 8 [(4, .int 0), (0, .ref b)]) : W p l e room_1 s m #[Value.ref b] below meth c H locs 600002 7302232 (lw_Z below #[Value.ref b] s) (F0 m 23 ls []) := by
  obtain ⟨hx, hb, hr, hml, hown, hts, hX, hbl, hlocks, hgv⟩ := id C0
  have hbA : ¬ A b := by rw [← hAe]; exact Nat.not_le.mpr hbl
  refine lv_iload hx hb dL_law_23 (lv_at hl 0 rfl) ?_
  refine lv_aload_n hx hb dL_law_25 rfl (lv_at hl 1 rfl) ?_
  refine va_slen hx hb hX hbl hbA hS dL_law_26 ?_
  refine lv_bipush (v := 6) hx hb dL_law_27 (by decide) ?_
  refine lv_isub hx hb dL_law_29 ?_
  rcases (show L = 0 ∨ L = 1 ∨ L = 2 ∨ L = 3 ∨ L = 4 ∨ L = 5 by omega) with rfl | rfl | rfl | rfl | rfl | rfl
  · refine px_top (v := (-6)) (by decide) ?_
    refine lv_icmp_gt (tgt := 1478) hx hb dL_law_30 (by decide) (fun _ => ?_) (fun h => absurd (by decide) h)
    refine lv_iconst (v := 1) hx hb dL_law_1478 (by decide) ?_
    refine va_forget (fun q hq => by have z := hS.2.2 q hq; rw [← hAe] at z; exact z) ?_
    exact lw_ret hx hb hr hlocks dL_law_1479
  · refine px_top (v := (-5)) (by decide) ?_
    refine lv_icmp_gt (tgt := 1478) hx hb dL_law_30 (by decide) (fun _ => ?_) (fun h => absurd (by decide) h)
    refine lv_iconst (v := 1) hx hb dL_law_1478 (by decide) ?_
    refine va_forget (fun q hq => by have z := hS.2.2 q hq; rw [← hAe] at z; exact z) ?_
    exact lw_ret hx hb hr hlocks dL_law_1479
  · refine px_top (v := (-4)) (by decide) ?_
    refine lv_icmp_gt (tgt := 1478) hx hb dL_law_30 (by decide) (fun _ => ?_) (fun h => absurd (by decide) h)
    refine lv_iconst (v := 1) hx hb dL_law_1478 (by decide) ?_
    refine va_forget (fun q hq => by have z := hS.2.2 q hq; rw [← hAe] at z; exact z) ?_
    exact lw_ret hx hb hr hlocks dL_law_1479
  · refine px_top (v := (-3)) (by decide) ?_
    refine lv_icmp_gt (tgt := 1478) hx hb dL_law_30 (by decide) (fun _ => ?_) (fun h => absurd (by decide) h)
    refine lv_iconst (v := 1) hx hb dL_law_1478 (by decide) ?_
    refine va_forget (fun q hq => by have z := hS.2.2 q hq; rw [← hAe] at z; exact z) ?_
    exact lw_ret hx hb hr hlocks dL_law_1479
  · refine px_top (v := (-2)) (by decide) ?_
    refine lv_icmp_gt (tgt := 1478) hx hb dL_law_30 (by decide) (fun _ => ?_) (fun h => absurd (by decide) h)
    refine lv_iconst (v := 1) hx hb dL_law_1478 (by decide) ?_
    refine va_forget (fun q hq => by have z := hS.2.2 q hq; rw [← hAe] at z; exact z) ?_
    exact lw_ret hx hb hr hlocks dL_law_1479
  · refine px_top (v := (-1)) (by decide) ?_
    refine lv_icmp_gt (tgt := 1478) hx hb dL_law_30 (by decide) (fun _ => ?_) (fun h => absurd (by decide) h)
    refine lv_iconst (v := 1) hx hb dL_law_1478 (by decide) ?_
    refine va_forget (fun q hq => by have z := hS.2.2 q hq; rw [← hAe] at z; exact z) ?_
    exact lw_ret hx hb hr hlocks dL_law_1479
