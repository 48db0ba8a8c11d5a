/-! The law's rows: the script, numbers, jumps. -/
section XP
variable {p : Program} {l : Launch} {e : Env} {R : Room} {s : State} {m : MethodId} {args : Array Value} {below : List Frame} {meth : Method} {c : Code}
variable {cc : ByteArray} {nL d : Nat} {own : String} {D : va_G} {yv : Nat → ClassId} {a : Nat → Nat} {ρ : Nat → Nat → Option Nat} {N : Nat} {sh : xH} {A : Nat → Prop} {kz : Nat × Nat} {Qm : State → Prop} {ret : Option FieldType} {pc : Nat} {L st : List xV} {σ : xS}
theorem xs_sld {b Lx t : Nat} {xs : Nat → Int32} {i : Int} (hC : XC p R s m args meth c D yv A own cc nL d ret) (hX : va_X b Lx xs s s.heap) (hbl : b < s.heap.size) (hbA : ¬ A b) (ha : a t = b) (hi : 0 ≤ i ∧ i < Lx) (hr : xR32 i) (hd : decode cc pc = .ok (.iaload, 1)) (k : XA kz p l e R s m args below meth c D yv a ρ N sh A nL Qm (pc + 1) L (xvi (xs i.toNat).toInt :: st) σ) : XA kz p l e R s m args below meth c D yv a ρ N sh A nL Qm pc L (xvi i :: xvr t :: st) σ := by
  intro hL hst hσ hln H locs ls hP hD hS hl
  have go := k hL (xcons (xtl (xtl hst)) (x32r _)) hσ hln H locs ls hP hD hS hl
  have e1 : (xvi i :: xvr t :: st).map (xv a) = .int (Int32.ofInt i) :: .ref b :: st.map (xv a) := by simp [xv, ha]
  rw [e1]
  refine va_sld hC.1 hC.2.1 hX hbl hbA hS (x32in hr hi) hd ?_
  rw [x32cl hr]
  have e2 : (xvi (xs i.toNat).toInt :: st).map (xv a) = .int (xs i.toNat) :: st.map (xv a) := by
    simp only [List.map_cons, xv]
    rw [← x32o]
  rw [e2] at go
  exact go
theorem xs_slen {b Lx t : Nat} {xs : Nat → Int32} (hC : XC p R s m args meth c D yv A own cc nL d ret) (hX : va_X b Lx xs s s.heap) (hbl : b < s.heap.size) (hbA : ¬ A b) (ha : a t = b) (hr : Lx < 2147483648) (hd : decode cc pc = .ok (.arraylength, 1)) (k : XA kz p l e R s m args below meth c D yv a ρ N sh A nL Qm (pc + 1) L (xvi (Lx : Int) :: st) σ) : XA kz p l e R s m args below meth c D yv a ρ N sh A nL Qm pc L (xvr t :: st) σ := by
  intro hL hst hσ hln H locs ls hP hD hS hl
  have go := k hL (xcons (xtl hst) ⟨by omega, by omega⟩) hσ hln H locs ls hP hD hS hl
  have e1 : (xvr t :: st).map (xv a) = .ref b :: st.map (xv a) := by simp [xv, ha]
  rw [e1]
  refine va_slen hC.1 hC.2.1 hX hbl hbA hS hd ?_
  exact go
theorem xs_iadd {x y : Int} (hC : XC p R s m args meth c D yv A own cc nL d ret) (hr : xR32 (x + y)) (hd : decode cc pc = .ok (.iadd, 1)) (k : XA kz p l e R s m args below meth c D yv a ρ N sh A nL Qm (pc + 1) L (xvi (x + y) :: st) σ) : XA kz p l e R s m args below meth c D yv a ρ N sh A nL Qm pc L (xvi y :: xvi x :: st) σ := by
  intro hL hst hσ hln H locs ls hP hD hS hl
  have go := k hL (xcons (xtl (xtl hst)) hr) hσ hln H locs ls hP hD hS hl
  refine lv_iadd hC.1 hC.2.1 hd ?_
  rw [show Int32.ofInt x + Int32.ofInt y = Int32.ofInt (x + y) from (Int32.ofInt_add x y).symm]
  exact go
theorem xs_isub {x y : Int} (hC : XC p R s m args meth c D yv A own cc nL d ret) (hr : xR32 (x - y)) (hd : decode cc pc = .ok (.isub, 1)) (k : XA kz p l e R s m args below meth c D yv a ρ N sh A nL Qm (pc + 1) L (xvi (x - y) :: st) σ) : XA kz p l e R s m args below meth c D yv a ρ N sh A nL Qm pc L (xvi y :: xvi x :: st) σ := by
  intro hL hst hσ hln H locs ls hP hD hS hl
  have go := k hL (xcons (xtl (xtl hst)) hr) hσ hln H locs ls hP hD hS hl
  refine lv_isub hC.1 hC.2.1 hd ?_
  rw [show Int32.ofInt x - Int32.ofInt y = Int32.ofInt (x - y) from (Int32.ofInt_sub x y).symm]
  exact go
theorem xs_bipush (hC : XC p R s m args meth c D yv A own cc nL d ret) {z : Int} (h1 : -128 ≤ z) (h2 : z ≤ 127) (hd : decode cc pc = .ok (.bipush z, 2)) (k : XA kz p l e R s m args below meth c D yv a ρ N sh A nL Qm (pc + 2) L (xvi z :: st) σ) : XA kz p l e R s m args below meth c D yv a ρ N sh A nL Qm pc L st σ := by
  have hr1 : xR32 z := ⟨by omega, by omega⟩
  have hr2 : (Int8.ofInt z).toInt32 = Int32.ofInt z := Int8.toInt32_ofInt (by have e : Int8.minValue.toInt = -128 := rfl; omega) (by have e : Int8.maxValue.toInt = 127 := rfl; omega)
  intro hL hst hσ hln H locs ls hP hD hS hl
  exact lv_bipush hC.1 hC.2.1 hd hr2 (k hL (xcons hst hr1) hσ hln H locs ls hP hD hS hl)
theorem xs_pop {z : Int} (hC : XC p R s m args meth c D yv A own cc nL d ret) (hd : decode cc pc = .ok (.pop, 1)) (k : XA kz p l e R s m args below meth c D yv a ρ N sh A nL Qm (pc + 1) L st σ) : XA kz p l e R s m args below meth c D yv a ρ N sh A nL Qm pc L (xvi z :: st) σ := by
  intro hL hst hσ hln H locs ls hP hD hS hl
  exact lv_pop hC.1 hC.2.1 hd rfl (k hL (xtl hst) hσ hln H locs ls hP hD hS hl)
theorem xs_goto {tgt : Nat} {off : Int} (hC : XC p R s m args meth c D yv A own cc nL d ret) (hd : decode cc pc = .ok (.goto off, 3)) (ht : (pc : Int) + off = (tgt : Int)) (k : XA kz p l e R s m args below meth c D yv a ρ N sh A nL Qm tgt L st σ) : XA kz p l e R s m args below meth c D yv a ρ N sh A nL Qm pc L st σ := by
  intro hL hst hσ hln H locs ls hP hD hS hl
  exact lv_goto hC.1 hC.2.1 hd ht (k hL hst hσ hln H locs ls hP hD hS hl)
theorem xs_icmpeq {x y : Int} {tgt : Nat} {off : Int} (hC : XC p R s m args meth c D yv A own cc nL d ret) (hxy : x = y) (hd : decode cc pc = .ok (.if_icmp .eq off, 3)) (ht : (pc : Int) + off = (tgt : Int)) (k : XA kz p l e R s m args below meth c D yv a ρ N sh A nL Qm tgt L st σ) : XA kz p l e R s m args below meth c D yv a ρ N sh A nL Qm pc L (xvi y :: xvi x :: st) σ := by
  intro hL hst hσ hln H locs ls hP hD hS hl
  exact lv_icmp_eq hC.1 hC.2.1 hd ht (fun _ => k hL (xtl (xtl hst)) hσ hln H locs ls hP hD hS hl) (fun h => absurd (by rw [hxy]) h)
theorem xs_icmpgt {x y : Int} {tgt : Nat} {off : Int} (hC : XC p R s m args meth c D yv A own cc nL d ret) (hx : xR32 x) (hy : xR32 y) (hd : decode cc pc = .ok (.if_icmp .gt off, 3)) (ht : (pc : Int) + off = (tgt : Int)) (k1 : y < x → XA kz p l e R s m args below meth c D yv a ρ N sh A nL Qm tgt L st σ) (k2 : ¬ y < x → XA kz p l e R s m args below meth c D yv a ρ N sh A nL Qm (pc + 3) L st σ) : XA kz p l e R s m args below meth c D yv a ρ N sh A nL Qm pc L (xvi y :: xvi x :: st) σ := by
  intro hL hst hσ hln H locs ls hP hD hS hl
  exact lv_icmp_gt hC.1 hC.2.1 hd ht (fun h => k1 ((x32lt hy hx).mp h) hL (xtl (xtl hst)) hσ hln H locs ls hP hD hS hl) (fun h => k2 (fun h2 => h ((x32lt hy hx).mpr h2)) hL (xtl (xtl hst)) hσ hln H locs ls hP hD hS hl)
theorem xs_istoreL (hC : XC p R s m args meth c D yv A own cc nL d ret) {i : Nat} {x : Int} (hd : decode cc pc = .ok (.istore i, 2)) (hi : i < L.length) (k : XA kz p l e R s m args below meth c D yv a ρ N sh A nL Qm (pc + 2) (xst1 L i (xvi x)) st σ) : XA kz p l e R s m args below meth c D yv a ρ N sh A nL Qm pc L (xvi x :: st) σ := by
  intro hL hst hσ hln H locs ls hP hD hS hl
  exact lv_istore (lv := xlv a L) hC.1 hC.2.1 hd hl (show i < nL from hln ▸ hi) rfl (fun ls hl => k (xst1_g hL (xhd hst)) (xtl hst) hσ (by rw [xst1_n]; exact hln) H locs ls hP hD hS (xst1_l hi hl))
theorem xs_lstoreL (hC : XC p R s m args meth c D yv A own cc nL d ret) {i : Nat} {x : Int} (hd : decode cc pc = .ok (.lstore i, 2)) (hi : i + 1 < L.length) (k : XA kz p l e R s m args below meth c D yv a ρ N sh A nL Qm (pc + 2) (xst2 L i (xvl x)) st σ) : XA kz p l e R s m args below meth c D yv a ρ N sh A nL Qm pc L (xvl x :: st) σ := by
  intro hL hst hσ hln H locs ls hP hD hS hl
  exact lv_lstore (lv := xlv a L) hC.1 hC.2.1 hd hl (show i + 1 < nL from hln ▸ hi) rfl (fun ls hl => k (xst2_g hL (xhd hst)) (xtl hst) hσ (by rw [xst2_n]; exact hln) H locs ls hP hD hS (xst2_l hi hl))
theorem xs_iinc (hC : XC p R s m args meth c D yv A own cc nL d ret) {i : Nat} {x n : Int} (hd : decode cc pc = .ok (.iinc i n, 3)) (h1 : L[i]? = some (xvi x)) (hr : xR32 (x + n)) (k : XA kz p l e R s m args below meth c D yv a ρ N sh A nL Qm (pc + 3) (xst1 L i (xvi (x + n))) st σ) : XA kz p l e R s m args below meth c D yv a ρ N sh A nL Qm pc L st σ := by
  intro hL hst hσ hln H locs ls hP hD hS hl
  have hi : i < L.length := (List.getElem?_eq_some_iff.mp h1).1
  have hin := xlv_in (a := a) h1 (by simp)
  obtain ⟨k0, hk0⟩ := List.getElem?_of_mem hin
  refine lv_iinc (v := Int32.ofInt (x + n)) (lv := xlv a L) hC.1 hC.2.1 hd hl hk0 (Int32.ofInt_add x n).symm (show i < nL from hln ▸ hi) rfl (fun ls hl => ?_)
  exact k (xst1_g hL hr) hst hσ (by rw [xst1_n]; exact hln) H locs ls hP hD hS (xst1_l hi hl)
/-- the switch over the script's number -/
theorem xs_switch {v dflt hi : Int} {offs : Array Int} {len tgt : Nat} (hC : XC p R s m args meth c D yv A own cc nL d ret) (hd0 : decode cc pc = .ok (.bipush 63, 2)) (hd1 : decode cc (pc + 2) = .ok (.iand, 1)) (hd2 : decode cc (pc + 3) = .ok (.tableswitch dflt 0 hi offs, len)) (ht : ((pc + 3 : Nat) : Int) + dflt = (tgt : Int)) (hsz : (offs.size : Int) = hi + 1)
    (k1 : XA kz p l e R s m args below meth c D yv a ρ N sh A nL Qm tgt L st σ) (k2 : ∀ (k : Nat) (off : Int), offs[k]? = some off → ∃ tg : Nat, ((pc + 3 : Nat) : Int) + off = (tg : Int) ∧ XA kz p l e R s m args below meth c D yv a ρ N sh A nL Qm tg L st σ) : XA kz p l e R s m args below meth c D yv a ρ N sh A nL Qm pc L (xvi v :: st) σ := by
  intro hL hst hσ hln H locs ls hP hD hS hl
  refine lv_bipush (v := 63) hC.1 hC.2.1 hd0 (by decide) ?_
  refine lv_iand hC.1 hC.2.1 hd1 ?_
  generalize Int32.ofInt v &&& 63 = x
  by_cases h : x.toInt < 0 ∨ hi < x.toInt
  · exact lv_tableOut hC.1 hC.2.1 hd2 h ht (k1 hL (xtl hst) hσ hln H locs ls hP hD hS hl)
  · have h1 : ¬ x.toInt < 0 := fun h2 => h (Or.inl h2)
    have h2 : ¬ hi < x.toInt := fun h2 => h (Or.inr h2)
    have hlt : (x.toInt - 0).toNat < offs.size := by omega
    obtain ⟨tg, h3, h4⟩ := k2 (x.toInt - 0).toNat offs[(x.toInt - 0).toNat] (Array.getElem?_eq_getElem hlt)
    exact lv_tableIn hC.1 hC.2.1 hd2 h1 h2 (Array.getElem?_eq_getElem hlt) h3 (h4 hL (xtl hst) hσ hln H locs ls hP hD hS hl)
/-- an argument: script[i + k] -/
theorem xs_arg {b Lx : Nat} {xs : Nat → Int32} {i k : Int} (hC : XC p R s m args meth c D yv A own cc nL d ret) (hX : va_X b Lx xs s s.heap) (hbl : b < s.heap.size) (hbA : ¬ A b) (ha : a 195 = b) (h0 : L[0]? = some (xvr 195)) (h4 : L[4]? = some (xvi i)) (hk : 1 ≤ k ∧ k ≤ 5) (hi : 0 ≤ i ∧ i + 5 < Lx) (hLx : (Lx : Int) ≤ 3072) (d0 : decode cc pc = .ok (.aload_n 0, 1)) (d1 : decode cc (pc + 1) = .ok (.iload 4, 2)) (d3 : decode cc (pc + 3) = .ok (.iconst k, 1)) (d4 : decode cc (pc + 4) = .ok (.iadd, 1)) (d5 : decode cc (pc + 5) = .ok (.iaload, 1)) (kk : XA kz p l e R s m args below meth c D yv a ρ N sh A nL Qm (pc + 6) L (xvi (xs (i + k).toNat).toInt :: st) σ) : XA kz p l e R s m args below meth c D yv a ρ N sh A nL Qm pc L st σ := by
  refine xs_aload hC (i := 0) (x := 195) d0 h0 ?_
  refine xs_iloadL hC d1 h4 ?_
  refine xs_iconst hC (by omega) (by omega) d3 ?_
  refine xs_iadd hC ⟨by omega, by omega⟩ d4 ?_
  exact xs_sld hC hX hbl hbA ha ⟨by omega, by omega⟩ ⟨by omega, by omega⟩ d5 kk
end XP
