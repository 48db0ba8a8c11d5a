theorem xretI_e {rt : Nat} {x : Int} {P : Prop} (h : xretI rt x P) : (rt = 1 ∧ P) ∨ (rt = 2 ∧ (x = 0 ∨ x = 1) ∧ P) := by
  match rt, h with
  | 1, h => exact Or.inl ⟨rfl, h⟩
  | 2, h => exact Or.inr ⟨rfl, h⟩
theorem xnarB (v : Int) : vp_nar .byte (Int32.ofInt v) = Int32.ofInt (xbyte v) := by rw [vp_nar_byte]; exact x32o _
theorem xnarZ (v : Int) : vp_nar .boolean (Int32.ofInt v) = Int32.ofInt (xbool v) := x32o _
/-! xw gives W: the law of the small machine (printed by wip/p2/mk08.py) -/
theorem W.rise {p : Program} {l : Launch} {e : Env} {R : Room} {s : State} {m : MethodId} {args : Array Value} {below : List Frame} {meth : Method} {c : Code} {H : Heap} {locs : List Loc} {c1 n1 c2 n2 : Nat} {Q : State → Prop} {g : JFrame} (h1 : c1 ≤ c2) (h2 : n1 ≤ n2) (k : W p l e R s m args below meth c H locs c2 n2 Q g) : W p l e R s m args below meth c H locs c1 n1 Q g :=
  fun T hT X => k T hT ⟨X.admits, X.cas, X.clock, X.frames, X.room, X.hears, X.method, X.code, X.here, X.tail, X.warmed, X.limits, X.bytes, X.same.mono h1 h2⟩
section XS
variable {p : Program} {l : Launch} {e : Env} {R : Room} {s : State} {m : MethodId} {args : Array Value} {below : List Frame} {meth : Method} {c : Code}
variable {cc : ByteArray} {nL : Nat} {own : String} {D : va_G} {y : Nat → ClassId} {a : Nat → Nat} {ρ : Nat → Nat → Option Nat} {N : Nat} {sh : xH} {A : Nat → Prop} {kz : Nat × Nat} {Qc : Array Value → State → Outcome → State → Prop}
variable {fld : Nat → Option (Nat × Nat)} {con : Nat → Option (Int ⊕ Int)} {env : Nat → Option (Nat × xE)} {jmp : Nat → Option (List xI)} {rt : Nat} {X : Nat → List xV → xS → Prop} {Q : Option xV → xS → Prop}
set_option maxHeartbeats 4000000 in
set_option maxRecDepth 100000 in
theorem xw_sG {kq : Nat × Nat} (hkq : kz.1 ≤ kq.1 ∧ kz.2 ≤ kq.2) (hx : p.tables.exec = Jvm.exec) (hb : c.code = cc) (hown : s.vm.findClass own = some m.cls) (hg : ∀ w ∈ gw, w.before args s = true) (hK : va_K D vwCl (px_tys y) s) (hN : xfin N sh) (hshp : xShp sh) (hsln : xLn sh)
    (hfld : ∀ i ci j, fld i = some (ci, j) → xFd own i ci j) (hcon : xCn own con) (hj : ∀ t k, jmp t = some k → xat k t ∧ xok cc k = true) (hr : meth.sig.returnType = xrt rt) (hlocks : meth.locks = false)
    (hQc : ∀ (r : Option xV) (σ : xS) (t : State), Q r σ → (∀ v, r = some v → xg v) → xgs sh σ → va_P D vwCl (xws a y ρ N sh σ) t.heap → va_D A (xws a y ρ N sh σ) → va_F A s t → Qc args s (.returned (r.map (xv a))) t)
    (hX : ∀ t L σ, X t L σ → XA kz p l e R s m args below meth c D y a ρ N sh A nL (MQ below Qc args s kq.1 kq.2 A) t L [] σ)
    (henv : ∀ (v : Bool) i n E, env (2 * i + if v then 0 else 1) = some (n, E) → ∀ pc L rest as σ K, decode cc pc = .ok (if v then .invokevirtual i else .invokestatic i, 3) → E as σ K → as.length = n → rest.length ≤ 4 → (∀ r σ', K r σ' → XA kz p l e R s m args below meth c D y a ρ N sh A nL (MQ below Qc args s kq.1 kq.2 A) (pc + 3) L (r.toList ++ rest) σ') → XA kz p l e R s m args below meth c D y a ρ N sh A nL (MQ below Qc args s kq.1 kq.2 A) pc L (as.reverse ++ rest) σ) :
    ∀ n k pc L st σ, xat k pc → xok cc k = true → xw sh fld con env jmp rt X Q n k L st σ → XA kz p l e R s m args below meth c D y a ρ N sh A nL (MQ below Qc args s kq.1 kq.2 A) pc L st σ := by
  intro n
  induction n with
  | zero => intro k pc L st σ _ _ h; exact h.elim
  | succ n ih =>
    intro k pc L st σ hat hok h
    match k, hat, hok, h with
    | [], _, _, h => exact h.elim
    | (pc', ins, len) :: k, hat, hok, h =>
    obtain rfl : pc' = pc := hat _ _ rfl
    obtain ⟨hok2, hok1⟩ := xok_e hok
    match len, hok1, h with
    | 0, _, h => exact xto_s (t := pc') h hX hj (fun k' hat' hok' hk' => ih k' pc' L st σ hat' hok' hk')
    | len + 1, hok1, h =>
    obtain ⟨hd, hlit, htg, hln0, hnx⟩ := hok1 (Nat.succ_ne_zero len)
    have nx : ∀ L st σ, xw sh fld con env jmp rt X Q n k L st σ → XA kz p l e R s m args below meth c D y a ρ N sh A nL (MQ below Qc args s kq.1 kq.2 A) (pc' + (len + 1)) L st σ := fun L st σ h => ih k _ L st σ hnx hok2 h
    dsimp only at hd hlit htg hln0
    cases ins with
    | iconst i =>
      obtain rfl : len = 0 := by simpa [xlen, xist] using hln0
      have hr1 : xR32 i := by have := of_decide_eq_true hlit; exact ⟨by omega, by omega⟩
      intro hL hst hσ hln H locs ls hP hD hS hl
      exact lv_iconst hx hb hd rfl (nx L (xvi i :: st) σ h hL (xcons hst hr1) hσ hln H locs ls hP hD hS hl)
    | bipush i =>
      obtain rfl : len = 1 := by simpa [xlen, xist] using hln0
      have hr1 : xR32 i := by have := of_decide_eq_true hlit; exact ⟨by omega, by omega⟩
      have hr2 : (Int8.ofInt i).toInt32 = Int32.ofInt i := Int8.toInt32_ofInt (by have := of_decide_eq_true hlit; have e : Int8.minValue.toInt = -128 := rfl; omega) (by have := of_decide_eq_true hlit; have e : Int8.maxValue.toInt = 127 := rfl; omega)
      intro hL hst hσ hln H locs ls hP hD hS hl
      exact lv_bipush hx hb hd hr2 (nx L (xvi i :: st) σ h hL (xcons hst hr1) hσ hln H locs ls hP hD hS hl)
    | sipush i =>
      obtain rfl : len = 2 := by simpa [xlen, xist] using hln0
      have hr1 : xR32 i := by have := of_decide_eq_true hlit; exact ⟨by omega, by omega⟩
      have hr2 : (Int16.ofInt i).toInt32 = Int32.ofInt i := Int16.toInt32_ofInt (by have := of_decide_eq_true hlit; have e : Int16.minValue.toInt = -32768 := rfl; omega) (by have := of_decide_eq_true hlit; have e : Int16.maxValue.toInt = 32767 := rfl; omega)
      intro hL hst hσ hln H locs ls hP hD hS hl
      exact lv_sipush hx hb hd hr2 (nx L (xvi i :: st) σ h hL (xcons hst hr1) hσ hln H locs ls hP hD hS hl)
    | lconst i =>
      obtain rfl : len = 0 := by simpa [xlen, xist] using hln0
      have hr1 : xR64 (i.val : Int) := by have := i.isLt; exact ⟨by omega, by omega⟩
      intro hL hst hσ hln H locs ls hP hD hS hl
      exact lv_lconst hx hb hd Int64.ofInt_eq_ofNat.symm (nx L (xvl (i.val : Int) :: st) σ h hL (xcons hst hr1) hσ hln H locs ls hP hD hS hl)
    | ldc i =>
      obtain rfl : len = 1 := by simpa [xlen, xist] using hln0
      have h2 : ∃ z, con i = some (.inl z) ∧ xw sh fld con env jmp rt X Q n k L (xvi z :: st) σ := by
        change (match con i with
          | some (.inl z) => xw sh fld con env jmp rt X Q n k L (xvi z :: st) σ
          | _ => False) at h
        split at h
        · exact ⟨_, by assumption, h⟩
        · exact h.elim
      obtain ⟨z, hz, h⟩ := h2
      intro hL hst hσ hln H locs ls hP hD hS hl
      exact lv_ldc hx hb hown (hg _ (hcon.1 i z hz).2) hd (nx L (xvi z :: st) σ h hL (xcons hst (hcon.1 i z hz).1) hσ hln H locs ls hP hD hS hl)
    | ldc_w i =>
      obtain rfl : len = 2 := by simpa [xlen, xist] using hln0
      have h2 : ∃ z, con i = some (.inl z) ∧ xw sh fld con env jmp rt X Q n k L (xvi z :: st) σ := by
        change (match con i with
          | some (.inl z) => xw sh fld con env jmp rt X Q n k L (xvi z :: st) σ
          | _ => False) at h
        split at h
        · exact ⟨_, by assumption, h⟩
        · exact h.elim
      obtain ⟨z, hz, h⟩ := h2
      intro hL hst hσ hln H locs ls hP hD hS hl
      exact lv_ldcw hx hb hown (hg _ (hcon.1 i z hz).2) hd (nx L (xvi z :: st) σ h hL (xcons hst (hcon.1 i z hz).1) hσ hln H locs ls hP hD hS hl)
    | ldc2_w i =>
      obtain rfl : len = 2 := by simpa [xlen, xist] using hln0
      have h2 : ∃ z, con i = some (.inr z) ∧ xw sh fld con env jmp rt X Q n k L (xvl z :: st) σ := by
        change (match con i with
          | some (.inr z) => xw sh fld con env jmp rt X Q n k L (xvl z :: st) σ
          | _ => False) at h
        split at h
        · exact ⟨_, by assumption, h⟩
        · exact h.elim
      obtain ⟨z, hz, h⟩ := h2
      intro hL hst hσ hln H locs ls hP hD hS hl
      exact lv_ldc2 hx hb hown (hg _ (hcon.2 i z hz).2) hd (nx L (xvl z :: st) σ h hL (xcons hst (hcon.2 i z hz).1) hσ hln H locs ls hP hD hS hl)
    | iload i =>
      obtain rfl : len = 1 := by simpa [xlen, xist] using hln0
      obtain ⟨x, hx1, h⟩ := xldi_e h
      intro hL hst hσ hln H locs ls hP hD hS hl
      exact lv_iload hx hb hd (hl.2.2 _ (xlv_in hx1 (by simp))) (nx L (xvi x :: st) σ h hL (xcons hst (hL _ (List.mem_of_getElem? hx1))) hσ hln H locs ls hP hD hS hl)
    | istore i =>
      obtain rfl : len = 1 := by simpa [xlen, xist] using hln0
      obtain ⟨x, r, rfl, hi, h⟩ := x1i_e h
      intro hL hst hσ hln H locs ls hP hD hS hl
      exact lv_istore (lv := xlv a L) hx hb hd hl (show i < nL from hln ▸ hi) rfl (fun ls hl => nx (xst1 L i (xvi x)) r σ h (xst1_g hL (xhd hst)) (xtl hst) hσ (by rw [xst1_n]; exact hln) H locs ls hP hD hS (xst1_l hi hl))
    | iload_n i =>
      obtain rfl : len = 0 := by simpa [xlen, xist] using hln0
      obtain ⟨x, hx1, h⟩ := xldi_e h
      intro hL hst hσ hln H locs ls hP hD hS hl
      exact lv_iload_n hx hb hd rfl (hl.2.2 _ (xlv_in hx1 (by simp))) (nx L (xvi x :: st) σ h hL (xcons hst (hL _ (List.mem_of_getElem? hx1))) hσ hln H locs ls hP hD hS hl)
    | istore_n i =>
      obtain rfl : len = 0 := by simpa [xlen, xist] using hln0
      obtain ⟨x, r, rfl, hi, h⟩ := x1i_e h
      intro hL hst hσ hln H locs ls hP hD hS hl
      exact lv_istore_n (lv := xlv a L) hx hb hd rfl hl (show i.val < nL from hln ▸ hi) rfl (fun ls hl => nx (xst1 L i.val (xvi x)) r σ h (xst1_g hL (xhd hst)) (xtl hst) hσ (by rw [xst1_n]; exact hln) H locs ls hP hD hS (xst1_l hi hl))
    | lload i =>
      obtain rfl : len = 1 := by simpa [xlen, xist] using hln0
      obtain ⟨x, hx1, h⟩ := xldl_e h
      intro hL hst hσ hln H locs ls hP hD hS hl
      exact lv_lload hx hb hd (hl.2.2 _ (xlv_in hx1 (by simp))) (nx L (xvl x :: st) σ h hL (xcons hst (hL _ (List.mem_of_getElem? hx1))) hσ hln H locs ls hP hD hS hl)
    | lstore i =>
      obtain rfl : len = 1 := by simpa [xlen, xist] using hln0
      obtain ⟨x, r, rfl, hi, h⟩ := x1l_e h
      intro hL hst hσ hln H locs ls hP hD hS hl
      exact lv_lstore (lv := xlv a L) hx hb hd hl (show i + 1 < nL from hln ▸ hi) rfl (fun ls hl => nx (xst2 L i (xvl x)) r σ h (xst2_g hL (xhd hst)) (xtl hst) hσ (by rw [xst2_n]; exact hln) H locs ls hP hD hS (xst2_l hi hl))
    | lload_n i =>
      obtain rfl : len = 0 := by simpa [xlen, xist] using hln0
      obtain ⟨x, hx1, h⟩ := xldl_e h
      intro hL hst hσ hln H locs ls hP hD hS hl
      exact lv_lload_n hx hb hd rfl (hl.2.2 _ (xlv_in hx1 (by simp))) (nx L (xvl x :: st) σ h hL (xcons hst (hL _ (List.mem_of_getElem? hx1))) hσ hln H locs ls hP hD hS hl)
    | lstore_n i =>
      obtain rfl : len = 0 := by simpa [xlen, xist] using hln0
      obtain ⟨x, r, rfl, hi, h⟩ := x1l_e h
      intro hL hst hσ hln H locs ls hP hD hS hl
      exact lv_lstore_n (lv := xlv a L) hx hb hd rfl hl (show i.val + 1 < nL from hln ▸ hi) rfl (fun ls hl => nx (xst2 L i.val (xvl x)) r σ h (xst2_g hL (xhd hst)) (xtl hst) hσ (by rw [xst2_n]; exact hln) H locs ls hP hD hS (xst2_l hi hl))
    | aload i =>
      obtain rfl : len = 1 := by simpa [xlen, xist] using hln0
      obtain ⟨x, hx1, h⟩ := xldr_e h
      intro hL hst hσ hln H locs ls hP hD hS hl
      exact lv_aload hx hb hd (hl.2.2 _ (xlv_in hx1 (by simp))) (nx L (xvr x :: st) σ h hL (xcons hst (hL _ (List.mem_of_getElem? hx1))) hσ hln H locs ls hP hD hS hl)
    | astore i =>
      obtain rfl : len = 1 := by simpa [xlen, xist] using hln0
      obtain ⟨x, r, rfl, hi, h⟩ := x1r_e h
      intro hL hst hσ hln H locs ls hP hD hS hl
      exact lv_astore (lv := xlv a L) hx hb hd hl (show i < nL from hln ▸ hi) rfl (fun ls hl => nx (xst1 L i (xvr x)) r σ h (xst1_g hL (xhd hst)) (xtl hst) hσ (by rw [xst1_n]; exact hln) H locs ls hP hD hS (xst1_l hi hl))
    | aload_n i =>
      obtain rfl : len = 0 := by simpa [xlen, xist] using hln0
      obtain ⟨x, hx1, h⟩ := xldr_e h
      intro hL hst hσ hln H locs ls hP hD hS hl
      exact lv_aload_n hx hb hd rfl (hl.2.2 _ (xlv_in hx1 (by simp))) (nx L (xvr x :: st) σ h hL (xcons hst (hL _ (List.mem_of_getElem? hx1))) hσ hln H locs ls hP hD hS hl)
    | astore_n i =>
      obtain rfl : len = 0 := by simpa [xlen, xist] using hln0
      obtain ⟨x, r, rfl, hi, h⟩ := x1r_e h
      intro hL hst hσ hln H locs ls hP hD hS hl
      exact lv_astore_n (lv := xlv a L) hx hb hd rfl hl (show i.val < nL from hln ▸ hi) rfl (fun ls hl => nx (xst1 L i.val (xvr x)) r σ h (xst1_g hL (xhd hst)) (xtl hst) hσ (by rw [xst1_n]; exact hln) H locs ls hP hD hS (xst1_l hi hl))
    | iinc i d =>
      obtain rfl : len = 2 := by simpa [xlen, xist] using hln0
      obtain ⟨x, hx1, h⟩ := xldi_e h
      obtain ⟨z, t, e1, e2, e3, e4⟩ := x32n (x + d)
      have hi := (List.getElem?_eq_some_iff.mp hx1).1
      obtain ⟨k0, hk0⟩ := List.getElem?_of_mem (xlv_in (a := a) hx1 (by simp))
      intro hL hst hσ hln H locs ls hP hD hS hl
      exact lv_iinc (lv := xlv a L) (v := Int32.ofInt z) hx hb hd hl hk0 (by rw [← Int32.ofInt_add]; exact e4) (show i < nL from hln ▸ hi) rfl (fun ls hl => nx (xst1 L i (xvi z)) st σ (h z t e1 e2 e3) (xst1_g hL ⟨e2, e3⟩) hst hσ (by rw [xst1_n]; exact hln) H locs ls hP hD hS (xst1_l (v := xvi z) hi hl))
    | iadd =>
      obtain rfl : len = 0 := by simpa [xlen, xist] using hln0
      obtain ⟨x, y0, r, rfl, h⟩ := x2i_e h
      obtain ⟨z, t, e1, e2, e3, e4⟩ := x32n (x + y0)
      rw [Int32.ofInt_add] at e4
      intro hL hst hσ hln H locs ls hP hD hS hl
      exact lv_iadd hx hb hd (px_top e4 (nx L (xvi z :: r) σ (h z t e1 e2 e3) hL (xcons (xtl (xtl hst)) ⟨e2, e3⟩) hσ hln H locs ls hP hD hS hl))
    | isub =>
      obtain rfl : len = 0 := by simpa [xlen, xist] using hln0
      obtain ⟨x, y0, r, rfl, h⟩ := x2i_e h
      obtain ⟨z, t, e1, e2, e3, e4⟩ := x32n (x - y0)
      rw [Int32.ofInt_sub] at e4
      intro hL hst hσ hln H locs ls hP hD hS hl
      exact lv_isub hx hb hd (px_top e4 (nx L (xvi z :: r) σ (h z t e1 e2 e3) hL (xcons (xtl (xtl hst)) ⟨e2, e3⟩) hσ hln H locs ls hP hD hS hl))
    | imul =>
      obtain rfl : len = 0 := by simpa [xlen, xist] using hln0
      obtain ⟨x, y0, r, rfl, h⟩ := x2i_e h
      obtain ⟨z, t, e1, e2, e3, e4⟩ := x32n (x * y0)
      rw [Int32.ofInt_mul] at e4
      intro hL hst hσ hln H locs ls hP hD hS hl
      exact lv_imul hx hb hd (px_top e4 (nx L (xvi z :: r) σ (h z t e1 e2 e3) hL (xcons (xtl (xtl hst)) ⟨e2, e3⟩) hσ hln H locs ls hP hD hS hl))
    | ladd =>
      obtain rfl : len = 0 := by simpa [xlen, xist] using hln0
      obtain ⟨x, y0, r, rfl, h⟩ := x2l_e h
      obtain ⟨z, t, e1, e2, e3, e4⟩ := x64n (x + y0)
      rw [Int64.ofInt_add] at e4
      intro hL hst hσ hln H locs ls hP hD hS hl
      exact lv_ladd hx hb hd (px_topl e4 (nx L (xvl z :: r) σ (h z t e1 e2 e3) hL (xcons (xtl (xtl hst)) ⟨e2, e3⟩) hσ hln H locs ls hP hD hS hl))
    | lsub =>
      obtain rfl : len = 0 := by simpa [xlen, xist] using hln0
      obtain ⟨x, y0, r, rfl, h⟩ := x2l_e h
      obtain ⟨z, t, e1, e2, e3, e4⟩ := x64n (x - y0)
      rw [Int64.ofInt_sub] at e4
      intro hL hst hσ hln H locs ls hP hD hS hl
      exact lv_lsub hx hb hd (px_topl e4 (nx L (xvl z :: r) σ (h z t e1 e2 e3) hL (xcons (xtl (xtl hst)) ⟨e2, e3⟩) hσ hln H locs ls hP hD hS hl))
    | lmul =>
      obtain rfl : len = 0 := by simpa [xlen, xist] using hln0
      obtain ⟨x, y0, r, rfl, h⟩ := x2l_e h
      obtain ⟨z, t, e1, e2, e3, e4⟩ := x64n (x * y0)
      rw [Int64.ofInt_mul] at e4
      intro hL hst hσ hln H locs ls hP hD hS hl
      exact lv_lmul hx hb hd (px_topl e4 (nx L (xvl z :: r) σ (h z t e1 e2 e3) hL (xcons (xtl (xtl hst)) ⟨e2, e3⟩) hσ hln H locs ls hP hD hS hl))
    | ineg =>
      obtain rfl : len = 0 := by simpa [xlen, xist] using hln0
      obtain ⟨x, r, rfl, h⟩ := x1i_e h
      obtain ⟨z, t, e1, e2, e3, e4⟩ := x32n (-x)
      rw [Int32.ofInt_neg] at e4
      intro hL hst hσ hln H locs ls hP hD hS hl
      exact lv_ineg hx hb hd (px_top e4 (nx L (xvi z :: r) σ (h z t e1 e2 e3) hL (xcons (xtl hst) ⟨e2, e3⟩) hσ hln H locs ls hP hD hS hl))
    | idiv =>
      obtain rfl : len = 0 := by simpa [xlen, xist] using hln0
      obtain ⟨x, y0, r, rfl, h0, h⟩ := x2i_e h
      intro hL hst hσ hln H locs ls hP hD hS hl
      exact lv_idiv hx hb hd (x32ne (xhd hst) h0) (px_top (x32o _) (nx L (xvi _ :: r) σ (h _ rfl (xdivF (xhd (xtl hst)) (xhd hst)) (x32r _).1 (x32r _).2) hL (xcons (xtl (xtl hst)) (x32r _)) hσ hln H locs ls hP hD hS hl))
    | irem =>
      obtain rfl : len = 0 := by simpa [xlen, xist] using hln0
      obtain ⟨x, y0, r, rfl, h0, h⟩ := x2i_e h
      intro hL hst hσ hln H locs ls hP hD hS hl
      exact lv_irem hx hb hd (x32ne (xhd hst) h0) (px_top (x32o _) (nx L (xvi _ :: r) σ (h _ rfl (xremF (xhd (xtl hst)) (xhd hst)) (x32r _).1 (x32r _).2) hL (xcons (xtl (xtl hst)) (x32r _)) hσ hln H locs ls hP hD hS hl))
    | ldiv =>
      obtain rfl : len = 0 := by simpa [xlen, xist] using hln0
      obtain ⟨x, y0, r, rfl, h0, h⟩ := x2l_e h
      intro hL hst hσ hln H locs ls hP hD hS hl
      exact lv_ldiv hx hb hd (x64ne (xhd hst) h0) (px_topl (x64o _) (nx L (xvl _ :: r) σ (h _ rfl (xldivF (xhd (xtl hst)) (xhd hst)) (x64r _).1 (x64r _).2) hL (xcons (xtl (xtl hst)) (x64r _)) hσ hln H locs ls hP hD hS hl))
    | lrem =>
      obtain rfl : len = 0 := by simpa [xlen, xist] using hln0
      obtain ⟨x, y0, r, rfl, h0, h⟩ := x2l_e h
      intro hL hst hσ hln H locs ls hP hD hS hl
      exact lv_lrem hx hb hd (x64ne (xhd hst) h0) (px_topl (x64o _) (nx L (xvl _ :: r) σ (h _ rfl (xlremF (xhd (xtl hst)) (xhd hst)) (x64r _).1 (x64r _).2) hL (xcons (xtl (xtl hst)) (x64r _)) hσ hln H locs ls hP hD hS hl))
    | iand =>
      obtain rfl : len = 0 := by simpa [xlen, xist] using hln0
      obtain ⟨x, y0, r, rfl, h⟩ := x2i_e h
      intro hL hst hσ hln H locs ls hP hD hS hl
      exact lv_iand hx hb hd (px_top (x32o _) (nx L (xvi _ :: r) σ (h _ rfl (x32r _).1 (x32r _).2) hL (xcons (xtl (xtl hst)) (x32r _)) hσ hln H locs ls hP hD hS hl))
    | ior =>
      obtain rfl : len = 0 := by simpa [xlen, xist] using hln0
      obtain ⟨x, y0, r, rfl, h⟩ := x2i_e h
      intro hL hst hσ hln H locs ls hP hD hS hl
      exact lv_ior hx hb hd (px_top (x32o _) (nx L (xvi _ :: r) σ (h _ rfl (x32r _).1 (x32r _).2) hL (xcons (xtl (xtl hst)) (x32r _)) hσ hln H locs ls hP hD hS hl))
    | ixor =>
      obtain rfl : len = 0 := by simpa [xlen, xist] using hln0
      obtain ⟨x, y0, r, rfl, h⟩ := x2i_e h
      intro hL hst hσ hln H locs ls hP hD hS hl
      exact lv_ixor hx hb hd (px_top (x32o _) (nx L (xvi _ :: r) σ (h _ rfl (x32r _).1 (x32r _).2) hL (xcons (xtl (xtl hst)) (x32r _)) hσ hln H locs ls hP hD hS hl))
    | ishl =>
      obtain rfl : len = 0 := by simpa [xlen, xist] using hln0
      obtain ⟨x, y0, r, rfl, h⟩ := x2i_e h
      intro hL hst hσ hln H locs ls hP hD hS hl
      exact lv_ishl hx hb hd (px_top (x32o _) (nx L (xvi _ :: r) σ (h _ rfl (x32r _).1 (x32r _).2) hL (xcons (xtl (xtl hst)) (x32r _)) hσ hln H locs ls hP hD hS hl))
    | ishr =>
      obtain rfl : len = 0 := by simpa [xlen, xist] using hln0
      obtain ⟨x, y0, r, rfl, h⟩ := x2i_e h
      intro hL hst hσ hln H locs ls hP hD hS hl
      exact lv_ishr hx hb hd (px_top (x32o _) (nx L (xvi _ :: r) σ (h _ rfl (x32r _).1 (x32r _).2) hL (xcons (xtl (xtl hst)) (x32r _)) hσ hln H locs ls hP hD hS hl))
    | iushr =>
      obtain rfl : len = 0 := by simpa [xlen, xist] using hln0
      obtain ⟨x, y0, r, rfl, h⟩ := x2i_e h
      intro hL hst hσ hln H locs ls hP hD hS hl
      exact lv_iushr hx hb hd (x32o _) (nx L (xvi _ :: r) σ (h _ rfl (x32r _).1 (x32r _).2) hL (xcons (xtl (xtl hst)) (x32r _)) hσ hln H locs ls hP hD hS hl)
    | lor =>
      obtain rfl : len = 0 := by simpa [xlen, xist] using hln0
      obtain ⟨x, y0, r, rfl, h⟩ := x2l_e h
      intro hL hst hσ hln H locs ls hP hD hS hl
      exact lv_lor hx hb hd (px_topl (x64o _) (nx L (xvl _ :: r) σ (h _ rfl (x64r _).1 (x64r _).2) hL (xcons (xtl (xtl hst)) (x64r _)) hσ hln H locs ls hP hD hS hl))
    | lshl =>
      obtain rfl : len = 0 := by simpa [xlen, xist] using hln0
      obtain ⟨y0, r0, rfl, h⟩ := x1i_e h
      obtain ⟨x, r, rfl, h⟩ := x1l_e h
      intro hL hst hσ hln H locs ls hP hD hS hl
      exact lv_lshl hx hb hd (x64o _) (nx L (xvl _ :: r) σ (h _ rfl (x64r _).1 (x64r _).2) hL (xcons (xtl (xtl hst)) (x64r _)) hσ hln H locs ls hP hD hS hl)
    | i2b =>
      obtain rfl : len = 0 := by simpa [xlen, xist] using hln0
      obtain ⟨x, r, rfl, h⟩ := x1i_e h
      intro hL hst hσ hln H locs ls hP hD hS hl
      exact lv_i2b hx hb hd (x32o _) (nx L (xvi (xbyte x) :: r) σ (h _ rfl (x32r _).1 (x32r _).2) hL (xcons (xtl hst) (x32r _)) hσ hln H locs ls hP hD hS hl)
    | i2l =>
      obtain rfl : len = 0 := by simpa [xlen, xist] using hln0
      obtain ⟨x, r, rfl, h⟩ := x1i_e h
      intro hL hst hσ hln H locs ls hP hD hS hl
      exact lv_i2l hx hb hd (xi2l (xhd hst)) (nx L (xvl x :: r) σ h hL (xcons (xtl hst) (xR32L (xhd hst))) hσ hln H locs ls hP hD hS hl)
    | lcmp =>
      obtain rfl : len = 0 := by simpa [xlen, xist] using hln0
      obtain ⟨x, y0, r, rfl, h⟩ := x2l_e h
      intro hL hst hσ hln H locs ls hP hD hS hl
      obtain ⟨z, e0, e1, e2, e3, e4, e5⟩ := xcmpF (x := x) (y := y0) (xhd (xtl hst)) (xhd hst)
      exact W.lcmp hx hb hd (px_top e0 (nx L (xvi z :: r) σ (h z e1 e2 e3 e4 e5) hL (xcons (xtl (xtl hst)) ⟨by omega, by omega⟩) hσ hln H locs ls hP hD hS hl))
    | dup =>
      obtain rfl : len = 0 := by simpa [xlen, xist] using hln0
      match st, h with
      | .inl x :: r, h => intro hL hst hσ hln H locs ls hP hD hS hl; exact lv_dup hx hb hd rfl (nx L (xvi x :: xvi x :: r) σ h hL (xcons hst (xhd hst)) hσ hln H locs ls hP hD hS hl)
      | .inr (.inr (.inl t)) :: r, h => intro hL hst hσ hln H locs ls hP hD hS hl; exact lv_dup hx hb hd rfl (nx L (xvr t :: xvr t :: r) σ h hL (xcons hst (xhd hst)) hσ hln H locs ls hP hD hS hl)
      | [], h => exact h.elim
      | .inr (.inl _) :: _, h => exact h.elim
      | .inr (.inr (.inr _)) :: _, h => exact h.elim
    | dup2 =>
      obtain rfl : len = 0 := by simpa [xlen, xist] using hln0
      match st, h with
      | .inl x :: .inr (.inr (.inl t)) :: r, h => intro hL hst hσ hln H locs ls hP hD hS hl; exact lv_dup2_11 hx hb hd rfl rfl (nx L (xvi x :: xvr t :: xvi x :: xvr t :: r) σ h hL (xcons (xcons hst (xhd (xtl hst))) (xhd hst)) hσ hln H locs ls hP hD hS hl)
      | [], h => exact h.elim
      | [.inl _], h => exact h.elim
      | .inl _ :: .inl _ :: _, h => exact h.elim
      | .inl _ :: .inr (.inl _) :: _, h => exact h.elim
      | .inl _ :: .inr (.inr (.inr _)) :: _, h => exact h.elim
      | .inr (.inl _) :: _, h => exact h.elim
      | .inr (.inr (.inl _)) :: _, h => exact h.elim
      | .inr (.inr (.inr _)) :: _, h => exact h.elim
    | pop =>
      obtain rfl : len = 0 := by simpa [xlen, xist] using hln0
      match st, h with
      | .inl x :: r, h => intro hL hst hσ hln H locs ls hP hD hS hl; exact lv_pop hx hb hd rfl (nx L r σ h hL (xtl hst) hσ hln H locs ls hP hD hS hl)
      | .inr (.inr (.inl t)) :: r, h => intro hL hst hσ hln H locs ls hP hD hS hl; exact lv_pop hx hb hd rfl (nx L r σ h hL (xtl hst) hσ hln H locs ls hP hD hS hl)
      | [], h => exact h.elim
      | .inr (.inl _) :: _, h => exact h.elim
      | .inr (.inr (.inr _)) :: _, h => exact h.elim
    | goto o =>
      obtain rfl : len = 2 := by simpa [xlen, xist] using hln0
      obtain ⟨t, ht⟩ := Int.eq_ofNat_of_zero_le (of_decide_eq_true htg)
      have h2 : xto jmp X (fun k => xw sh fld con env jmp rt X Q n k L st σ) ((pc' : Int) + o) L st σ := h
      rw [ht] at h2
      intro hL hst hσ hln H locs ls hP hD hS hl
      exact lv_goto hx hb hd ht (xto_s h2 hX hj (fun k' hat' hok' hk' => ih k' t L st σ hat' hok' hk') hL hst hσ hln H locs ls hP hD hS hl)
    | ifCond cnd o =>
      obtain rfl : len = 2 := by simpa [xlen, xist] using hln0
      obtain ⟨t, ht⟩ := Int.eq_ofNat_of_zero_le (of_decide_eq_true htg)
      obtain ⟨x, r, rfl, h⟩ := x1i_e h
      have h2 : xbr cnd x 0 (xto jmp X (fun k => xw sh fld con env jmp rt X Q n k L r σ) ((pc' : Int) + o) L r σ) (xw sh fld con env jmp rt X Q n k L r σ) := h
      rw [ht] at h2
      intro hL hst hσ hln H locs ls hP hD hS hl
      have hxr : xR32 x := xhd hst
      have hyr : xR32 (0) := xR0
      cases cnd
      case eq => exact lv_if_eq hx hb hd ht (fun hc => xto_s (h2.1 ((x32eq hxr hyr).mp hc)) hX hj (fun k' hat' hok' hk' => ih k' t L r σ hat' hok' hk') hL (xtl hst) hσ hln H locs ls hP hD hS hl) (fun hc => nx L r σ (h2.2 (fun q => hc ((x32eq hxr hyr).mpr q))) hL (xtl hst) hσ hln H locs ls hP hD hS hl)
      case ne => exact lv_if_ne hx hb hd ht (fun hc => xto_s (h2.1 (fun q => hc ((x32eq hxr hyr).mpr q))) hX hj (fun k' hat' hok' hk' => ih k' t L r σ hat' hok' hk') hL (xtl hst) hσ hln H locs ls hP hD hS hl) (fun hc => nx L r σ (h2.2 ((x32eq hxr hyr).mp hc)) hL (xtl hst) hσ hln H locs ls hP hD hS hl)
      case lt => exact lv_if_lt hx hb hd ht (fun hc => xto_s (h2.1 ((x32lt hxr hyr).mp hc)) hX hj (fun k' hat' hok' hk' => ih k' t L r σ hat' hok' hk') hL (xtl hst) hσ hln H locs ls hP hD hS hl) (fun hc => nx L r σ (h2.2 (fun q => hc ((x32lt hxr hyr).mpr q))) hL (xtl hst) hσ hln H locs ls hP hD hS hl)
      case ge => exact lv_if_ge hx hb hd ht (fun hc => xto_s (h2.1 ((x32le hyr hxr).mp hc)) hX hj (fun k' hat' hok' hk' => ih k' t L r σ hat' hok' hk') hL (xtl hst) hσ hln H locs ls hP hD hS hl) (fun hc => nx L r σ (h2.2 (fun q => hc ((x32le hyr hxr).mpr q))) hL (xtl hst) hσ hln H locs ls hP hD hS hl)
      case gt => exact lv_if_gt hx hb hd ht (fun hc => xto_s (h2.1 ((x32lt hyr hxr).mp hc)) hX hj (fun k' hat' hok' hk' => ih k' t L r σ hat' hok' hk') hL (xtl hst) hσ hln H locs ls hP hD hS hl) (fun hc => nx L r σ (h2.2 (fun q => hc ((x32lt hyr hxr).mpr q))) hL (xtl hst) hσ hln H locs ls hP hD hS hl)
      case le => exact lv_if_le hx hb hd ht (fun hc => xto_s (h2.1 ((x32le hxr hyr).mp hc)) hX hj (fun k' hat' hok' hk' => ih k' t L r σ hat' hok' hk') hL (xtl hst) hσ hln H locs ls hP hD hS hl) (fun hc => nx L r σ (h2.2 (fun q => hc ((x32le hxr hyr).mpr q))) hL (xtl hst) hσ hln H locs ls hP hD hS hl)
    | if_icmp cnd o =>
      obtain rfl : len = 2 := by simpa [xlen, xist] using hln0
      obtain ⟨t, ht⟩ := Int.eq_ofNat_of_zero_le (of_decide_eq_true htg)
      obtain ⟨x, y0, r, rfl, h⟩ := x2i_e h
      have h2 : xbr cnd x y0 (xto jmp X (fun k => xw sh fld con env jmp rt X Q n k L r σ) ((pc' : Int) + o) L r σ) (xw sh fld con env jmp rt X Q n k L r σ) := h
      rw [ht] at h2
      intro hL hst hσ hln H locs ls hP hD hS hl
      have hxr : xR32 x := xhd (xtl hst)
      have hyr : xR32 (y0) := xhd hst
      cases cnd
      case eq => exact lv_icmp_eq hx hb hd ht (fun hc => xto_s (h2.1 ((x32eq hxr hyr).mp hc)) hX hj (fun k' hat' hok' hk' => ih k' t L r σ hat' hok' hk') hL (xtl (xtl hst)) hσ hln H locs ls hP hD hS hl) (fun hc => nx L r σ (h2.2 (fun q => hc ((x32eq hxr hyr).mpr q))) hL (xtl (xtl hst)) hσ hln H locs ls hP hD hS hl)
      case ne => exact lv_icmp_ne hx hb hd ht (fun hc => xto_s (h2.1 (fun q => hc ((x32eq hxr hyr).mpr q))) hX hj (fun k' hat' hok' hk' => ih k' t L r σ hat' hok' hk') hL (xtl (xtl hst)) hσ hln H locs ls hP hD hS hl) (fun hc => nx L r σ (h2.2 ((x32eq hxr hyr).mp hc)) hL (xtl (xtl hst)) hσ hln H locs ls hP hD hS hl)
      case lt => exact lv_icmp_lt hx hb hd ht (fun hc => xto_s (h2.1 ((x32lt hxr hyr).mp hc)) hX hj (fun k' hat' hok' hk' => ih k' t L r σ hat' hok' hk') hL (xtl (xtl hst)) hσ hln H locs ls hP hD hS hl) (fun hc => nx L r σ (h2.2 (fun q => hc ((x32lt hxr hyr).mpr q))) hL (xtl (xtl hst)) hσ hln H locs ls hP hD hS hl)
      case ge => exact lv_icmp_ge hx hb hd ht (fun hc => xto_s (h2.1 ((x32le hyr hxr).mp hc)) hX hj (fun k' hat' hok' hk' => ih k' t L r σ hat' hok' hk') hL (xtl (xtl hst)) hσ hln H locs ls hP hD hS hl) (fun hc => nx L r σ (h2.2 (fun q => hc ((x32le hyr hxr).mpr q))) hL (xtl (xtl hst)) hσ hln H locs ls hP hD hS hl)
      case gt => exact lv_icmp_gt hx hb hd ht (fun hc => xto_s (h2.1 ((x32lt hyr hxr).mp hc)) hX hj (fun k' hat' hok' hk' => ih k' t L r σ hat' hok' hk') hL (xtl (xtl hst)) hσ hln H locs ls hP hD hS hl) (fun hc => nx L r σ (h2.2 (fun q => hc ((x32lt hyr hxr).mpr q))) hL (xtl (xtl hst)) hσ hln H locs ls hP hD hS hl)
      case le => exact lv_icmp_le hx hb hd ht (fun hc => xto_s (h2.1 ((x32le hxr hyr).mp hc)) hX hj (fun k' hat' hok' hk' => ih k' t L r σ hat' hok' hk') hL (xtl (xtl hst)) hσ hln H locs ls hP hD hS hl) (fun hc => nx L r σ (h2.2 (fun q => hc ((x32le hxr hyr).mpr q))) hL (xtl (xtl hst)) hσ hln H locs ls hP hD hS hl)
    | tableswitch d lo hi offs =>
      obtain ⟨x, r, rfl, h1, h2, h3⟩ := x1i_e h
      have htg2 : (decide (0 ≤ (pc' : Int) + d) && offs.toList.all (fun o => decide (0 ≤ (pc' : Int) + o))) = true := htg
      rw [Bool.and_eq_true] at htg2
      intro hL hst hσ hln H locs ls hP hD hS hl
      have hxr : xR32 x := xhd hst
      by_cases hout : x < lo ∨ hi < x
      · obtain ⟨t, ht⟩ := Int.eq_ofNat_of_zero_le (of_decide_eq_true htg2.1)
        have h4 := h1 hout
        rw [ht] at h4
        exact lv_tableOut hx hb hd (by rw [x32 hxr]; exact hout) ht (xto_s h4 hX hj (fun k' hat' hok' hk' => ih k' t L r σ hat' hok' hk') hL (xtl hst) hσ hln H locs ls hP hD hS hl)
      · have h5 : (x - lo).toNat < offs.size := by omega
        have h6 : offs[(x - lo).toNat]? = some offs[(x - lo).toNat] := Array.getElem?_eq_getElem h5
        generalize offs[(x - lo).toNat] = off at h6
        have h7 : offs.toList[(x - lo).toNat]? = some off := by rw [Array.getElem?_toList]; exact h6
        obtain ⟨t, ht⟩ := Int.eq_ofNat_of_zero_le (of_decide_eq_true (List.all_eq_true.mp htg2.2 off (List.mem_of_getElem? h7)))
        have h4 := xtab_e _ _ h3 _ off h7 (by omega)
        rw [ht] at h4
        exact lv_tableIn hx hb hd (by rw [x32 hxr]; omega) (by rw [x32 hxr]; omega) (by rw [x32 hxr]; exact h6) ht (xto_s h4 hX hj (fun k' hat' hok' hk' => ih k' t L r σ hat' hok' hk') hL (xtl hst) hσ hln H locs ls hP hD hS hl)
    | getfield i =>
      obtain rfl : len = 2 := by simpa [xlen, xist] using hln0
      have h2 : x1r st (fun t st => xget sh fld i t σ (fun v => xw sh fld con env jmp rt X Q n k L (v :: st) σ)) := h
      obtain ⟨t, r, rfl, h5⟩ := x1r_e h2
      obtain ⟨ci, j, codes, cd, hf, hs, hcj, h5⟩ := xget_e h5
      obtain ⟨C, TT, NN, ty0, f1, f2, f3, f4, f5, f6, f7⟩ := hfld i ci j hf
      obtain ⟨q, hq⟩ := xtags_in hN hs
      intro hL hst hσ hln H locs ls hP hD hS hl
      rcases h5 with ⟨hc, h5⟩ | ⟨rfl, h5⟩ | ⟨d, rfl, h5⟩
      · have hv : (xfs a ρ σ t codes)[j]? = some (.int (Int32.ofInt (σ t j))) := by
          rw [xfs_at, hcj]
          rcases hc with rfl | rfl <;> rfl
        have hr1 := (hσ.1 t ci codes hs j cd hcj).1 hc
        exact va_get hx hb hg f2 hown hK hP q (xws_at hq hs) f1 j f5 (hg _ f6) (fun _ h9 => h9) hv hd (nx L (xvi _ :: r) σ (h5 _ rfl hr1.1 hr1.2) hL (xcons (xtl hst) hr1) hσ hln H locs ls hP hD hS hl)
      · have hv : (xfs a ρ σ t codes)[j]? = some (.long (Int64.ofInt (σ t j))) := by
          rw [xfs_at, hcj]; rfl
        have hr1 := (hσ.1 t ci codes hs j 1 hcj).2 rfl
        exact va_get hx hb hg f2 hown hK hP q (xws_at hq hs) f1 j f5 (hg _ f6) (fun _ h9 => h9) hv hd (nx L (xvl _ :: r) σ (h5 _ rfl hr1.1 hr1.2) hL (xcons (xtl hst) hr1) hσ hln H locs ls hP hD hS hl)
      · have hv : (xfs a ρ σ t codes)[j]? = some (.ref (a d)) := by
          rw [xfs_at, hcj]; rfl
        exact va_get hx hb hg f2 hown hK hP q (xws_at hq hs) f1 j f5 (hg _ f6) (fun _ h9 => h9) hv hd (nx L (xvr d :: r) σ h5 hL (xcons (xtl hst) trivial) hσ hln H locs ls hP hD hS hl)
    | putfield i =>
      obtain rfl : len = 2 := by simpa [xlen, xist] using hln0
      match st, h with
      | v :: .inr (.inr (.inl t)) :: r, h =>
        obtain ⟨ci, j, codes, cd, z, hf, hs, hcj, h5, hor⟩ := xputf_e h
        obtain ⟨C, TT, NN, ty0, f1, f2, f3, f4, f5, f6, f7⟩ := hfld i ci j hf
        obtain ⟨q, hq⟩ := xtags_in hN hs
        intro hL hst hσ hln H locs ls hP hD hS hl
        rcases hor with ⟨hc, hv⟩ | ⟨hc, hv⟩ | ⟨hc, hv, hz⟩
        · subst hc
          subst hv
          have ht := (hshp t ci codes hs C TT NN f1 j 0 hcj).1 rfl
          have hty : ty0 j = .int := Option.some.inj ((f3 j f5).symm.trans ht)
          have hl2 : j < (xfs a ρ σ t codes).length := by unfold xfs; rw [List.length_map, List.length_zipIdx]; exact (List.getElem?_eq_some_iff.mp hcj).1
          refine va_put hx hb hg f2 ty0 f3 f4 hown hK hP hD hS q (xws_at hq hs) f1 j f5 (hg _ f6) (fun _ h9 => h9) (f7 (Or.inl hty)) (ty := .int) ht  rfl rfl hl2 hd (fun H1 locs1 hP1 hD1 hS1 => ?_)
          have he : (xws a y ρ N sh σ).set q (a t, .inr (ci, (xfs a ρ σ t codes).set j (.int (Int32.ofInt z)))) = xws a y ρ N sh (xput σ t j z) := xws_set hq hs (by rw [xput_f (v := z) hcj (by simp [xfv, xput])]; rfl) (fun u hu e9 => xcell_ne hu e9)
          exact nx L r (xput σ t j z) h5 hL (xtl (xtl hst)) (xgs_put hσ (fun ci2 codes2 hs2 c2 hc2 => by rw [hs] at hs2; cases hs2; rw [hcj] at hc2; cases hc2; exact ⟨fun h9 => xhd hst, fun h9 => absurd h9 (by decide)⟩) (fun k2 n2 l2 hs2 => by rw [hs] at hs2; cases hs2)) hln H1 locs1 ls (he ▸ hP1) (he ▸ hD1) hS1 hl
        · subst hc
          subst hv
          have ht := (hshp t ci codes hs C TT NN f1 j 1 hcj).2.1 rfl
          have hty : ty0 j = .long := Option.some.inj ((f3 j f5).symm.trans ht)
          have hl2 : j < (xfs a ρ σ t codes).length := by unfold xfs; rw [List.length_map, List.length_zipIdx]; exact (List.getElem?_eq_some_iff.mp hcj).1
          refine va_put hx hb hg f2 ty0 f3 f4 hown hK hP hD hS q (xws_at hq hs) f1 j f5 (hg _ f6) (fun _ h9 => h9) (f7 (Or.inr (Or.inl hty))) (ty := .long) ht  rfl rfl hl2 hd (fun H1 locs1 hP1 hD1 hS1 => ?_)
          have he : (xws a y ρ N sh σ).set q (a t, .inr (ci, (xfs a ρ σ t codes).set j (.long (Int64.ofInt z)))) = xws a y ρ N sh (xput σ t j z) := xws_set hq hs (by rw [xput_f (v := z) hcj (by simp [xfv, xput])]; rfl) (fun u hu e9 => xcell_ne hu e9)
          exact nx L r (xput σ t j z) h5 hL (xtl (xtl hst)) (xgs_put hσ (fun ci2 codes2 hs2 c2 hc2 => by rw [hs] at hs2; cases hs2; rw [hcj] at hc2; cases hc2; exact ⟨fun h9 => absurd h9 (by decide), fun h9 => xhd hst⟩) (fun k2 n2 l2 hs2 => by rw [hs] at hs2; cases hs2)) hln H1 locs1 ls (he ▸ hP1) (he ▸ hD1) hS1 hl
        · subst hc
          subst hv
          have ht := (hshp t ci codes hs C TT NN f1 j 2 hcj).2.2 rfl
          have hty : ty0 j = .boolean := Option.some.inj ((f3 j f5).symm.trans ht)
          have hl2 : j < (xfs a ρ σ t codes).length := by unfold xfs; rw [List.length_map, List.length_zipIdx]; exact (List.getElem?_eq_some_iff.mp hcj).1
          refine va_put hx hb hg f2 ty0 f3 f4 hown hK hP hD hS q (xws_at hq hs) f1 j f5 (hg _ f6) (fun _ h9 => h9) (f7 (Or.inr (Or.inr hty))) (ty := .boolean) ht (xnar hz).1 (xnar hz).2 hl2 hd (fun H1 locs1 hP1 hD1 hS1 => ?_)
          have he : (xws a y ρ N sh σ).set q (a t, .inr (ci, (xfs a ρ σ t codes).set j (.int (Int32.ofInt z)))) = xws a y ρ N sh (xput σ t j z) := xws_set hq hs (by rw [xput_f (v := z) hcj (by simp [xfv, xput])]; rfl) (fun u hu e9 => xcell_ne hu e9)
          exact nx L r (xput σ t j z) h5 hL (xtl (xtl hst)) (xgs_put hσ (fun ci2 codes2 hs2 c2 hc2 => by rw [hs] at hs2; cases hs2; rw [hcj] at hc2; cases hc2; exact ⟨fun h9 => xhd hst, fun h9 => absurd h9 (by decide)⟩) (fun k2 n2 l2 hs2 => by rw [hs] at hs2; cases hs2)) hln H1 locs1 ls (he ▸ hP1) (he ▸ hD1) hS1 hl
      | [], h => exact h.elim
      | [_], h => exact h.elim
      | _ :: .inl _ :: _, h => exact h.elim
      | _ :: .inr (.inl _) :: _, h => exact h.elim
      | _ :: .inr (.inr (.inr _)) :: _, h => exact h.elim
    | iaload =>
      obtain rfl : len = 0 := by simpa [xlen, xist] using hln0
      obtain ⟨i, r0, rfl, h⟩ := x1i_e h
      obtain ⟨t, r, rfl, h⟩ := x1r_e h
      obtain ⟨kd, mm, ll, hs, hk, hi, h⟩ := xarr_e h
      subst hk
      intro hL hst hσ hln H locs ls hP hD hS hl
      obtain ⟨q, hq⟩ := xtags_in hN hs
      have hr1 := (hσ.2 t 1 mm ll hs i.toNat (by omega)).2 (by decide) (by decide)
      exact va_iald hx hb hK hP q 1 (xws_at hq hs) rfl (x32in (xhd hst) hi) hd (px_top (by rw [x32cl (xhd hst)]) (nx L (xvi (σ t i.toNat) :: r) σ (h _ rfl hr1.1 hr1.2) hL (xcons (xtl (xtl hst)) hr1) hσ hln H locs ls hP hD hS hl))
    | laload =>
      obtain rfl : len = 0 := by simpa [xlen, xist] using hln0
      obtain ⟨i, r0, rfl, h⟩ := x1i_e h
      obtain ⟨t, r, rfl, h⟩ := x1r_e h
      obtain ⟨kd, mm, ll, hs, hk, hi, h⟩ := xarr_e h
      subst hk
      intro hL hst hσ hln H locs ls hP hD hS hl
      obtain ⟨q, hq⟩ := xtags_in hN hs
      have hr1 := (hσ.2 t 2 mm ll hs i.toNat (by omega)).1 rfl
      exact va_lald hx hb hK hP q 2 (xws_at hq hs) rfl (x32in (xhd hst) hi) hd (px_topl (by rw [x32cl (xhd hst)]) (nx L (xvl (σ t i.toNat) :: r) σ (h _ rfl hr1.1 hr1.2) hL (xcons (xtl (xtl hst)) hr1) hσ hln H locs ls hP hD hS hl))
    | baload =>
      obtain rfl : len = 0 := by simpa [xlen, xist] using hln0
      obtain ⟨i, r0, rfl, h⟩ := x1i_e h
      obtain ⟨t, r, rfl, h⟩ := x1r_e h
      obtain ⟨kd, mm, ll, hs, hk, hi, h⟩ := xarr_e h
      intro hL hst hσ hln H locs ls hP hD hS hl
      rcases hk with hk | hk
      · subst hk
        obtain ⟨q, hq⟩ := xtags_in hN hs
        have hr1 := (hσ.2 t 0 mm ll hs i.toNat (by omega)).2 (by decide) (by decide)
        exact va_bald hx hb hK hP q 0 (xws_at hq hs) rfl (x32in (xhd hst) hi) hd (px_top (by rw [x32cl (xhd hst)]) (nx L (xvi (σ t i.toNat) :: r) σ (h _ rfl hr1.1 hr1.2) hL (xcons (xtl (xtl hst)) hr1) hσ hln H locs ls hP hD hS hl))
      · subst hk
        obtain ⟨q, hq⟩ := xtags_in hN hs
        have hr1 := (hσ.2 t 3 mm ll hs i.toNat (by omega)).2 (by decide) (by decide)
        exact va_zald hx hb hK hP q 3 (xws_at hq hs) rfl (x32in (xhd hst) hi) hd (px_top (by rw [x32cl (xhd hst)]) (nx L (xvi (σ t i.toNat) :: r) σ (h _ rfl hr1.1 hr1.2) hL (xcons (xtl (xtl hst)) hr1) hσ hln H locs ls hP hD hS hl))
    | iastore =>
      obtain rfl : len = 0 := by simpa [xlen, xist] using hln0
      obtain ⟨v, r1, rfl, h⟩ := x1i_e h
      obtain ⟨i, r0, rfl, h⟩ := x1i_e h
      obtain ⟨t, r, rfl, hka, h⟩ := x1r_e h
      obtain ⟨ka, na, la, hsa, hka⟩ := xarr_e hka
      obtain ⟨kd, mm, ll, hs, hi, h⟩ := xstore_e h
      intro hL hst hσ hln H locs ls hP hD hS hl
      rcases h with ⟨hk, h⟩ | ⟨hk, h⟩ | ⟨hk, h⟩
      · rw [hs] at hsa; cases hsa; omega
      · subst hk
        obtain ⟨q, hq⟩ := xtags_in hN hs
        refine va_iast hx hb hK hP hD hS q 1 (xws_at hq hs) rfl (x32in (xhd (xtl hst)) hi) hd (fun H1 locs1 hP1 hD1 hS1 => ?_)
        rw [x32cl (xhd (xtl hst)), xupd] at hP1 hD1
        have he : (xws a y ρ N sh σ).set q (a t, .inl (y 1, mm, .inl (fun i9 => Int32.ofInt (xput σ t i.toNat (v) t i9)))) = xws a y ρ N sh (xput σ t i.toNat (v)) := xws_set hq hs rfl (fun u hu e9 => xcell_ne hu e9)
        exact nx L r (xput σ t i.toNat (v)) h hL (xtl (xtl (xtl hst))) (xgs_put hσ (fun ci2 codes2 hs2 c2 hc2 => by rw [hs] at hs2; cases hs2) (fun k2 n2 l2 hs2 => by rw [hs] at hs2; cases hs2; exact ⟨fun h9 => absurd h9 (by decide), fun _ => xhd hst⟩)) hln H1 locs1 ls (he ▸ hP1) (he ▸ hD1) hS1 hl
      · rw [hs] at hsa; cases hsa; omega
    | bastore =>
      obtain rfl : len = 0 := by simpa [xlen, xist] using hln0
      obtain ⟨v, r1, rfl, h⟩ := x1i_e h
      obtain ⟨i, r0, rfl, h⟩ := x1i_e h
      obtain ⟨t, r, rfl, hka, h⟩ := x1r_e h
      obtain ⟨ka, na, la, hsa, hka⟩ := xarr_e hka
      obtain ⟨kd, mm, ll, hs, hi, h⟩ := xstore_e h
      intro hL hst hσ hln H locs ls hP hD hS hl
      rcases h with ⟨hk, h⟩ | ⟨hk, h⟩ | ⟨hk, h⟩
      · subst hk
        obtain ⟨q, hq⟩ := xtags_in hN hs
        refine va_bast hx hb hK hP hD hS q 0 (xws_at hq hs) rfl (x32in (xhd (xtl hst)) hi) hd (fun H1 locs1 hP1 hD1 hS1 => ?_)
        rw [x32cl (xhd (xtl hst)), xnarB v, xupd] at hP1 hD1
        have he : (xws a y ρ N sh σ).set q (a t, .inl (y 0, mm, .inl (fun i9 => Int32.ofInt (xput σ t i.toNat (xbyte v) t i9)))) = xws a y ρ N sh (xput σ t i.toNat (xbyte v)) := xws_set hq hs rfl (fun u hu e9 => xcell_ne hu e9)
        exact nx L r (xput σ t i.toNat (xbyte v)) h hL (xtl (xtl (xtl hst))) (xgs_put hσ (fun ci2 codes2 hs2 c2 hc2 => by rw [hs] at hs2; cases hs2) (fun k2 n2 l2 hs2 => by rw [hs] at hs2; cases hs2; exact ⟨fun h9 => absurd h9 (by decide), fun _ => x32r _⟩)) hln H1 locs1 ls (he ▸ hP1) (he ▸ hD1) hS1 hl
      · rw [hs] at hsa; cases hsa; omega
      · subst hk
        obtain ⟨q, hq⟩ := xtags_in hN hs
        refine va_zast hx hb hK hP hD hS q 3 (xws_at hq hs) rfl (x32in (xhd (xtl hst)) hi) hd (fun H1 locs1 hP1 hD1 hS1 => ?_)
        rw [x32cl (xhd (xtl hst)), xnarZ v, xupd] at hP1 hD1
        have he : (xws a y ρ N sh σ).set q (a t, .inl (y 3, mm, .inl (fun i9 => Int32.ofInt (xput σ t i.toNat (xbool v) t i9)))) = xws a y ρ N sh (xput σ t i.toNat (xbool v)) := xws_set hq hs rfl (fun u hu e9 => xcell_ne hu e9)
        exact nx L r (xput σ t i.toNat (xbool v)) h hL (xtl (xtl (xtl hst))) (xgs_put hσ (fun ci2 codes2 hs2 c2 hc2 => by rw [hs] at hs2; cases hs2) (fun k2 n2 l2 hs2 => by rw [hs] at hs2; cases hs2; exact ⟨fun h9 => absurd h9 (by decide), fun _ => x32r _⟩)) hln H1 locs1 ls (he ▸ hP1) (he ▸ hD1) hS1 hl
    | lastore =>
      obtain rfl : len = 0 := by simpa [xlen, xist] using hln0
      obtain ⟨v, r1, rfl, h⟩ := x1l_e h
      obtain ⟨i, r0, rfl, h⟩ := x1i_e h
      obtain ⟨t, r, rfl, h⟩ := x1r_e h
      obtain ⟨kd, mm, ll, hs, hk, hi, h⟩ := xarr_e h
      subst hk
      intro hL hst hσ hln H locs ls hP hD hS hl
      obtain ⟨q, hq⟩ := xtags_in hN hs
      refine va_last hx hb hK hP hD hS q 2 (xws_at hq hs) rfl (x32in (xhd (xtl hst)) hi) hd (fun H1 locs1 hP1 hD1 hS1 => ?_)
      rw [x32cl (xhd (xtl hst)), xupdL] at hP1 hD1
      have he : (xws a y ρ N sh σ).set q (a t, .inl (y 2, mm, .inr (.inl (fun i9 => Int64.ofInt (xput σ t i.toNat v t i9))))) = xws a y ρ N sh (xput σ t i.toNat (v)) := xws_set hq hs rfl (fun u hu e9 => xcell_ne hu e9)
      exact nx L r (xput σ t i.toNat (v)) h hL (xtl (xtl (xtl hst))) (xgs_put hσ (fun ci2 codes2 hs2 c2 hc2 => by rw [hs] at hs2; cases hs2) (fun k2 n2 l2 hs2 => by rw [hs] at hs2; cases hs2; exact ⟨fun _ => xhd hst, fun h9 => absurd rfl h9⟩)) hln H1 locs1 ls (he ▸ hP1) (he ▸ hD1) hS1 hl
    | arraylength =>
      obtain rfl : len = 0 := by simpa [xlen, xist] using hln0
      obtain ⟨t, r, rfl, h⟩ := x1r_e h
      obtain ⟨kd, mm, ll, hs, hk, h⟩ := xarr_e h
      obtain ⟨q, hq⟩ := xtags_in hN hs
      obtain ⟨ty, hty⟩ := xty y hk
      have hr1 : xR32 (mm : Int) := by have := hsln t kd mm ll hs; exact ⟨by omega, by omega⟩
      intro hL hst hσ hln H locs ls hP hD hS hl
      exact va_alen hx hb hK hP q kd (xws_at hq hs) hty Int32.ofInt_eq_ofNat.symm hd (nx L (xvi mm :: r) σ h hL (xcons (xtl hst) hr1) hσ hln H locs ls hP hD hS hl)
    | invokevirtual i =>
      obtain rfl : len = 2 := by simpa [xlen, xist] using hln0
      have h5 : xcall env (2 * i) st σ (fun r st σ => xw sh fld con env jmp rt X Q n k L (r.toList ++ st) σ) := h
      obtain ⟨n9, E, he, h1, h2, h3⟩ := xcall_e h5
      have h4 := henv true i n9 E he pc' L (st.drop n9) (st.take n9).reverse σ _ hd h3 (by rw [List.length_reverse, List.length_take]; omega) h2 (fun r σ' hk => nx L _ σ' hk)
      rw [List.reverse_reverse, List.take_append_drop] at h4
      exact h4
    | invokestatic i =>
      obtain rfl : len = 2 := by simpa [xlen, xist] using hln0
      have h5 : xcall env (2 * i + 1) st σ (fun r st σ => xw sh fld con env jmp rt X Q n k L (r.toList ++ st) σ) := h
      obtain ⟨n9, E, he, h1, h2, h3⟩ := xcall_e h5
      have h4 := henv false i n9 E he pc' L (st.drop n9) (st.take n9).reverse σ _ hd h3 (by rw [List.length_reverse, List.length_take]; omega) h2 (fun r σ' hk => nx L _ σ' hk)
      rw [List.reverse_reverse, List.take_append_drop] at h4
      exact h4
    | ireturn =>
      obtain rfl : len = 0 := by simpa [xlen, xist] using hln0
      obtain ⟨x, r, rfl, hr0, h5⟩ := x1i_e h
      subst hr0
      intro hL hst hσ hln H locs ls hP hD hS hl
      rcases xretI_e h5 with ⟨rfl, h6⟩ | ⟨rfl, h7, h6⟩
      · exact W.rise hkq.1 hkq.2 <| W.iret hx hb hr (fun t ht _ => hQc (some (xvi x)) σ t h6 (fun v9 h9 => by cases h9; exact xhd hst) hσ (by rw [ht]; exact hP) hD (hS.F ht)) hS.2.2 hd hlocks
      · exact W.rise hkq.1 hkq.2 <| W.zret hx hb hr (xnar h7).1 (fun t ht _ => hQc (some (xvi x)) σ t h6 (fun v9 h9 => by cases h9; exact xhd hst) hσ (by rw [ht]; exact hP) hD (hS.F ht)) hS.2.2 hd hlocks
    | lreturn =>
      obtain rfl : len = 0 := by simpa [xlen, xist] using hln0
      obtain ⟨x, r, rfl, hr0, hr1, h5⟩ := x1l_e h
      subst hr0
      subst hr1
      intro hL hst hσ hln H locs ls hP hD hS hl
      exact W.rise hkq.1 hkq.2 <| W.lret hx hb hr (fun t ht _ => hQc (some (xvl x)) σ t h5 (fun v9 h9 => by cases h9; exact xhd hst) hσ (by rw [ht]; exact hP) hD (hS.F ht)) hS.2.2 hd hlocks
    | return_ =>
      obtain rfl : len = 0 := by simpa [xlen, xist] using hln0
      have h6 : st = [] ∧ rt = 0 ∧ Q none σ := h
      obtain ⟨hr0, hr1, h5⟩ := h6
      subst hr0
      subst hr1
      intro hL hst hσ hln H locs ls hP hD hS hl
      exact W.rise hkq.1 hkq.2 <| W.vret hx hb hr (fun t ht _ => hQc none σ t h5 (fun v9 h9 => nomatch h9) hσ (by rw [ht]; exact hP) hD (hS.F ht)) hS.2.2 hd hlocks
    | _ => exact (h : False).elim
theorem xw_s (hx : p.tables.exec = Jvm.exec) (hb : c.code = cc) (hown : s.vm.findClass own = some m.cls) (hg : ∀ w ∈ gw, w.before args s = true) (hK : va_K D vwCl (px_tys y) s) (hN : xfin N sh) (hshp : xShp sh) (hsln : xLn sh)
    (hfld : ∀ i ci j, fld i = some (ci, j) → xFd own i ci j) (hcon : xCn own con) (hj : ∀ t k, jmp t = some k → xat k t ∧ xok cc k = true) (hr : meth.sig.returnType = xrt rt) (hlocks : meth.locks = false)
    (hQc : ∀ (r : Option xV) (σ : xS) (t : State), Q r σ → (∀ v, r = some v → xg v) → xgs sh σ → va_P D vwCl (xws a y ρ N sh σ) t.heap → va_D A (xws a y ρ N sh σ) → va_F A s t → Qc args s (.returned (r.map (xv a))) t)
    (hX : ∀ t L σ, X t L σ → XA kz p l e R s m args below meth c D y a ρ N sh A nL (MQ below Qc args s kz.1 kz.2 A) t L [] σ)
    (henv : ∀ (v : Bool) i n E, env (2 * i + if v then 0 else 1) = some (n, E) → ∀ pc L rest as σ K, decode cc pc = .ok (if v then .invokevirtual i else .invokestatic i, 3) → E as σ K → as.length = n → rest.length ≤ 4 → (∀ r σ', K r σ' → XA kz p l e R s m args below meth c D y a ρ N sh A nL (MQ below Qc args s kz.1 kz.2 A) (pc + 3) L (r.toList ++ rest) σ') → XA kz p l e R s m args below meth c D y a ρ N sh A nL (MQ below Qc args s kz.1 kz.2 A) pc L (as.reverse ++ rest) σ) :
    ∀ n k pc L st σ, xat k pc → xok cc k = true → xw sh fld con env jmp rt X Q n k L st σ → XA kz p l e R s m args below meth c D y a ρ N sh A nL (MQ below Qc args s kz.1 kz.2 A) pc L st σ :=
  xw_sG ⟨Nat.le_refl _, Nat.le_refl _⟩ hx hb hown hg hK hN hshp hsln hfld hcon hj hr hlocks hQc hX henv
end XS
