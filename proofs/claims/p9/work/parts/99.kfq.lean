/-! THE CLAIM OUT OF ONE WALK OF THE LAW'S BODY. Your part is whole_start (and what it stands on); all else here is the same for every law, but numbers. -/
def R_law : String := "SevenTableLaw"
def lw_P (b : Addr) (xs : List Int32) (args : Array Value) (s : State) : Prop := args = #[.ref b] ∧ s.IntsAt b xs ∧ xs.length ≤ 3072 ∧ (Jvm.Cond.and given_1 narrow_1).before args s = true
def lw_Q (_ : Array Value) (s : State) (o : Outcome) (t : State) : Prop := o = .returned (some (.int 1)) ∧ Framed s o t [] 601024 7293034
def lw_Z (below : List Frame) (a : Array Value) (s : State) : State → Prop := fun t => ∃ o, t.status = .running ∧ Ended t below o ∧ lw_Q a s o t
/-- the law's own end, with 1 on the stack, nothing written that was there before, its room as the claim has it -/
theorem lw_ret {p : Program} {l : Launch} {e : Env} {s : State} {m : MethodId} {below : List Frame} {meth : Method} {c : Code} {b : Nat} (hx : p.tables.exec = Jvm.exec) (hb : c.code = code) (hr : meth.sig.returnType = ret) (hlocks : meth.locks = false) {pc : Nat} {H : Heap} {ls : Array Slot} (hdg : decode code pc = .ok (.ireturn, 1)) : W p l e room_1 s m #[Value.ref b] below meth c H [] 601024 7293034 (lw_Z below #[Value.ref b] s) (F0 m pc ls [.int 1]) := by
  intro T hT X
  obtain ⟨fs, hret, hrun, hended, hW, hframe⟩ := X.leave (v := some (.int 1)) (hlocks := hlocks) (fun h => by rw [hr] at h; cases h)
  have hmeth' : T.vm.method? m = some meth := X.method'
  refine ⟨T.setFrames fs, ?_, .returned (some (.int 1)), hrun, hended, rfl, ⟨_, rfl⟩, hW, hframe⟩
  jvm_step X.here [X.here.top, hx, hb, hdg, hmeth', hr, ret, narrow_b1]
  (try refine ⟨rfl, ?_⟩); (try refine ⟨rfl, ?_⟩)
  first | (intro acts; rw [hret _ acts rfl rfl rfl]) | rw [hret _ _ rfl rfl rfl]
  exact Steps.refl _
/-- what holds at the law's entry: the machine, the code, the tables' words (any of lw_tbl by 'hts w (by decide +kernel)'), the script of L ints xs at the cell b, what the Statement gives of the start (any of its parts by flat_of_before) -/
def lw_At (p : Program) (s : State) (m : MethodId) (meth : Method) (c : Code) (b L : Nat) (xs : Nat → Int32) : Prop :=
  p.tables.exec = Jvm.exec ∧ c.code = code ∧ meth.sig.returnType = ret ∧ c.maxLocals = 8 ∧ s.vm.findClass R_law = some m.cls ∧ (∀ w ∈ lw_tbl, w.before #[Value.ref b] s = true) ∧ va_X b L xs s s.heap ∧ b < s.heap.size ∧ meth.locks = false ∧ (Jvm.Cond.and given_1 narrow_1).before #[Value.ref b] s = true
set_option maxRecDepth 100000 in
theorem law_out {p : Program} {l : Launch} {e : Env} {s : State} {m : MethodId} {below : List Frame} {meth : Method} {c : Code} {D : va_G} {yv : Nat → ClassId} {a : Nat → Nat} {ρ : Nat → Nat → Option Nat} {kz : Nat × Nat} {σ : xS} {sh : xH} {b : Nat} {L : List xV} (hC : XC p room_1 s m #[Value.ref b] meth c D yv (fun q : Nat => s.heap.size ≤ q) RL cL_law 8 48 ret) (hr : kz.1 ≤ 20000 ∧ kz.2 ≤ 2000000) : XA kz p l e room_1 s m #[Value.ref b] below meth c D yv a ρ 224 sh (fun q : Nat => s.heap.size ≤ q) 8 (lw_Z below #[Value.ref b] s) 1396 L [] σ := by
  refine xs_iconst hC (by decide) (by decide) dL_law_1396 ?_
  intro hL hst hσ hln H locs ls hP hD hS hl
  have e1 : [xvi 1].map (xv a) = [Value.int 1] := by simp [xv]
  rw [e1]
  refine W.widen (k := 601024) (n := 7293034) (by omega) (by omega) ?_
  refine va_forget (fun q hq => hS.2.2 q hq) ?_
  exact lw_ret hC.1 hC.2.1 hC.2.2.2.2.2.2.2.2.2.1 hC.2.2.2.2.2.2.2.2.2.2 dL_law_1397
set_option maxHeartbeats 8000000 in
set_option maxRecDepth 100000 in
theorem law_body {p : Program} {l : Launch} {e : Env} {s : State} {m : MethodId} {below : List Frame} {meth : Method} {c : Code} {D : va_G} {yv : Nat → ClassId} {a : Nat → Nat} {ρ : Nat → Nat → Option Nat} {A : Nat → Prop} {kz : Nat × Nat} {Qm : State → Prop} {σ : xS} {w : Nat → Bool} {b Lx n : Nat} {xs : Nat → Int32} {ad : Nat → Nat} {i v : Int} (hL : LC p l s m meth c D yv A b Lx xs ad) (hI : LIG a ρ w σ b) (hkz : LKz n w kz) (hi : 0 ≤ i ∧ i + 5 < Lx) (hn : n ≤ 512) (hend : ∀ kz w a ρ σ, LIG a ρ w σ b → LKz (n + 1) w kz → XA kz p l e room_1 s m #[Value.ref b] below meth c D yv a ρ 224 (shLw w) A 8 Qm 1390 (lL i) [] σ) : XA kz p l e room_1 s m #[Value.ref b] below meth c D yv a ρ 224 (shLw w) A 8 Qm 37 (lL i) [xvi v] σ := by
  refine xs_switch (tgt := 1390) hL.1 dL_law_37 dL_law_39 dL_law_40 rfl rfl (hend kz w a ρ σ hI (hkz.st (k1 := 0) (k2 := 0) (fun h => h) (by decide) (by decide))) (fun k off hk => ?_)
  match k, hk with
  | 0, hk => exact ⟨204, by cases hk; rfl, law_0 hL hI hkz hi hn hend⟩
  | 1, hk => exact ⟨277, by cases hk; rfl, law_1 hL hI hkz hi hn hend⟩
  | 2, hk => exact ⟨302, by cases hk; rfl, law_2 hL hI hkz hi hn hend⟩
  | 3, hk => exact ⟨315, by cases hk; rfl, law_3 hL hI hkz hi hn hend⟩
  | 4, hk => exact ⟨328, by cases hk; rfl, law_4 hL hI hkz hi hn hend⟩
  | 5, hk => exact ⟨368, by cases hk; rfl, law_5 hL hI hkz hi hn hend⟩
  | 6, hk => exact ⟨405, by cases hk; rfl, law_6 hL hI hkz hi hn hend⟩
  | 7, hk => exact ⟨430, by cases hk; rfl, law_7 hL hI hkz hi hn hend⟩
  | 8, hk => exact ⟨455, by cases hk; rfl, law_8 hL hI hkz hi hn hend⟩
  | 9, hk => exact ⟨480, by cases hk; rfl, law_9 hL hI hkz hi hn hend⟩
  | 10, hk => exact ⟨529, by cases hk; rfl, law_10 hL hI hkz hi hn hend⟩
  | 11, hk => exact ⟨590, by cases hk; rfl, law_11 hL hI hkz hi hn hend⟩
  | 12, hk => exact ⟨615, by cases hk; rfl, law_12 hL hI hkz hi hn hend⟩
  | 13, hk => exact ⟨628, by cases hk; rfl, law_13 hL hI hkz hi hn hend⟩
  | 14, hk => exact ⟨665, by cases hk; rfl, law_14 hL hI hkz hi hn hend⟩
  | 15, hk => exact ⟨702, by cases hk; rfl, law_15 hL hI hkz hi hn hend⟩
  | 16, hk => exact ⟨766, by cases hk; rfl, law_16 hL hI hkz hi hn hend⟩
  | 17, hk => exact ⟨818, by cases hk; rfl, law_17 hL hI hkz hi hn hend⟩
  | 18, hk => exact ⟨843, by cases hk; rfl, law_18 hL hI hkz hi hn hend⟩
  | 19, hk => exact ⟨868, by cases hk; rfl, law_19 hL hI hkz hi hn hend⟩
  | 20, hk => exact ⟨893, by cases hk; rfl, law_20 hL hI hkz hi hn hend⟩
  | 21, hk => exact ⟨918, by cases hk; rfl, law_21 hL hI hkz hi hn hend⟩
  | 22, hk => exact ⟨931, by cases hk; rfl, law_22 hL hI hkz hi hn hend⟩
  | 23, hk => exact ⟨944, by cases hk; rfl, law_23 hL hI hkz hi hn hend⟩
  | 24, hk => exact ⟨981, by cases hk; rfl, law_24 hL hI hkz hi hn hend⟩
  | 25, hk => exact ⟨1006, by cases hk; rfl, law_25 hL hI hkz hi hn hend⟩
  | 26, hk => exact ⟨1043, by cases hk; rfl, law_26 hL hI hkz hi hn hend⟩
  | 27, hk => exact ⟨1104, by cases hk; rfl, law_27 hL hI hkz hi hn hend⟩
  | 28, hk => exact ⟨1165, by cases hk; rfl, law_28 hL hI hkz hi hn hend⟩
  | 29, hk => exact ⟨1214, by cases hk; rfl, law_29 hL hI hkz hi hn hend⟩
  | 30, hk => exact ⟨1227, by cases hk; rfl, law_30 hL hI hkz hi hn hend⟩
  | 31, hk => exact ⟨1252, by cases hk; rfl, law_31 hL hI hkz hi hn hend⟩
  | 32, hk => exact ⟨1277, by cases hk; rfl, law_32 hL hI hkz hi hn hend⟩
  | 33, hk => exact ⟨1290, by cases hk; rfl, law_33 hL hI hkz hi hn hend⟩
  | 34, hk => exact ⟨1315, by cases hk; rfl, law_34 hL hI hkz hi hn hend⟩
  | 35, hk => exact ⟨1340, by cases hk; rfl, law_35 hL hI hkz hi hn hend⟩
  | 36, hk => exact ⟨1365, by cases hk; rfl, law_36 hL hI hkz hi hn hend⟩
  | k + 37, hk => exact absurd hk (by simp)
set_option maxRecDepth 100000 in
/-- the loop, from its head -/
theorem law_loop {p : Program} {l : Launch} {e : Env} {s : State} {m : MethodId} {below : List Frame} {meth : Method} {c : Code} {D : va_G} {yv : Nat → ClassId} {b Lx : Nat} {xs : Nat → Int32} {ad : Nat → Nat} (hL : LC p l s m meth c D yv (fun q : Nat => s.heap.size ≤ q) b Lx xs ad) (f : Nat) : ∀ (n : Nat) (kz : Nat × Nat) (w : Nat → Bool) (a : Nat → Nat) (ρ : Nat → Nat → Option Nat) (σ : xS), LIG a ρ w σ b → LKz n w kz → n ≤ 512 → Lx ≤ 6 * (n + f) → XA kz p l e room_1 s m #[Value.ref b] below meth c D yv a ρ 224 (shLw w) (fun q : Nat => s.heap.size ≤ q) 8 (lw_Z below #[Value.ref b] s) 23 (lL ((6 * n : Nat) : Int)) [] σ := by
  obtain ⟨hC, hYY, hX, hbl, hbA, hst, hLx⟩ := id hL
  induction f with
  | zero =>
    intro n kz w a ρ σ hI hkz hn hf
    refine xs_iloadL hC dL_law_23 rfl ?_
    refine xs_aload hC (i := 0) (x := 195) dL_law_25 rfl ?_
    refine xs_slen hC hX hbl hbA hI.1.2.2.2.2 (by omega) dL_law_26 ?_
    refine xs_bipush hC (by decide) (by decide) dL_law_27 ?_
    refine xs_isub hC ⟨by omega, by omega⟩ dL_law_29 ?_
    refine xs_icmpgt (tgt := 1396) hC ⟨by omega, by omega⟩ ⟨by omega, by omega⟩ dL_law_30 rfl (fun _ => law_out hC (hkz.r hn)) (fun h => absurd (by omega) h)
  | succ f ih =>
    intro n kz w a ρ σ hI hkz hn hf
    refine xs_iloadL hC dL_law_23 rfl ?_
    refine xs_aload hC (i := 0) (x := 195) dL_law_25 rfl ?_
    refine xs_slen hC hX hbl hbA hI.1.2.2.2.2 (by omega) dL_law_26 ?_
    refine xs_bipush hC (by decide) (by decide) dL_law_27 ?_
    refine xs_isub hC ⟨by omega, by omega⟩ dL_law_29 ?_
    refine xs_icmpgt (tgt := 1396) hC ⟨by omega, by omega⟩ ⟨by omega, by omega⟩ dL_law_30 rfl (fun _ => law_out hC (hkz.r hn)) (fun h => ?_)
    refine xs_aload hC (i := 0) (x := 195) dL_law_33 rfl ?_
    refine xs_iloadL hC dL_law_34 rfl ?_
    refine xs_sld hC hX hbl hbA hI.1.2.2.2.2 ⟨by omega, by omega⟩ ⟨by omega, by omega⟩ dL_law_36 ?_
    refine law_body (n := n) hL hI hkz ⟨by omega, by omega⟩ hn (fun kz w a ρ σ hI hkz => ?_)
    refine xs_iinc hC (i := 4) (x := ((6 * n : Nat) : Int)) (n := 6) dL_law_1390 rfl ⟨by omega, by omega⟩ ?_
    refine xs_goto (tgt := 23) hC dL_law_1393 rfl ?_
    rw [show ((6 * n : Nat) : Int) + 6 = ((6 * (n + 1) : Nat) : Int) by omega]
    exact ih (n + 1) kz w a ρ σ hI hkz (by omega) (by omega)
