/-! The small machine is the machine: xw gives W. -/
def xlen : Instr → Nat
  | .iconst _ => 1
  | .bipush _ => 2
  | .sipush _ => 3
  | .lconst _ => 1
  | .ldc _ => 2
  | .ldc_w _ => 3
  | .ldc2_w _ => 3
  | .iload _ => 2
  | .lload _ => 2
  | .aload _ => 2
  | .istore _ => 2
  | .lstore _ => 2
  | .astore _ => 2
  | .iinc _ _ => 3
  | .goto _ => 3
  | .ifCond _ _ => 3
  | .if_icmp _ _ => 3
  | .getfield _ => 3
  | .putfield _ => 3
  | .invokevirtual _ => 3
  | .invokestatic _ => 3
  | _ => 1
def xlit : Instr → Bool
  | .iconst i => decide (-1 ≤ i ∧ i ≤ 5)
  | .bipush i => decide (-128 ≤ i ∧ i ≤ 127)
  | .sipush i => decide (-32768 ≤ i ∧ i ≤ 32767)
  | _ => true
def xist : Instr → Bool
  | .tableswitch _ _ _ _ => true
  | _ => false
def xtg (pc : Nat) : Instr → Bool
  | .goto o => decide (0 ≤ (pc : Int) + o)
  | .ifCond _ o => decide (0 ≤ (pc : Int) + o)
  | .if_icmp _ o => decide (0 ≤ (pc : Int) + o)
  | .tableswitch d _ _ offs => decide (0 ≤ (pc : Int) + d) && offs.toList.all (fun o => decide (0 ≤ (pc : Int) + o))
  | _ => true
def xokI (cc : ByteArray) (q : xI) : Bool := q.2.2 == 0 || (decide (decode cc q.1 = .ok (q.2.1, q.2.2)) && (xlit q.2.1 && (xtg q.1 q.2.1 && (xist q.2.1 || q.2.2 == xlen q.2.1))))
def xok (cc : ByteArray) : List xI → Bool
  | [] => true
  | q :: r => xokI cc q && (match r with
    | [] => true
    | q2 :: _ => q.2.2 == 0 || q2.1 == q.1 + q.2.2) && xok cc r
theorem xok_e {cc : ByteArray} {q : xI} {r : List xI} (h : xok cc (q :: r) = true) : xok cc r = true ∧ (¬ q.2.2 = 0 → decode cc q.1 = .ok (q.2.1, q.2.2) ∧ xlit q.2.1 = true ∧ xtg q.1 q.2.1 = true ∧ (xist q.2.1 || q.2.2 == xlen q.2.1) = true ∧ ∀ q2 r2, r = q2 :: r2 → q2.1 = q.1 + q.2.2) := by
  unfold xok at h
  simp only [Bool.and_eq_true] at h
  obtain ⟨⟨h1, h2⟩, h3⟩ := h
  refine ⟨h3, fun h0 => ?_⟩
  unfold xokI at h1
  have e0 : (q.2.2 == 0) = false := by simpa using h0
  rw [e0] at h1 h2
  simp only [Bool.false_or, Bool.and_eq_true] at h1 h2
  obtain ⟨a1, a2, a3, a4⟩ := h1
  refine ⟨of_decide_eq_true a1, a2, a3, a4, fun q2 r2 e => ?_⟩
  subst e
  simpa using h2
def xokT (cc : ByteArray) (tb : List (Nat × Bool × List xI)) : Bool := tb.all (fun q => (match q.2.2 with
  | [] => false
  | q2 :: _ => q2.1 == q.1) && xok cc q.2.2)
def xat (k : List xI) (pc : Nat) : Prop := ∀ q r, k = q :: r → q.1 = pc
def xrt : Nat → Option FieldType
  | 1 => some .int
  | 2 => some .boolean
  | 3 => some .long
  | _ => none
def XA (kz : Nat × Nat) (p : Program) (l : Launch) (e : Env) (R : Room) (s : State) (m : MethodId) (args : Array Value) (below : List Frame) (meth : Method) (c : Code) (D : va_G) (y : Nat → ClassId) (a : Nat → Nat) (ρ : Nat → Nat → Option Nat) (N : Nat) (sh : xH) (A : Nat → Prop) (nL : Nat) (Qm : State → Prop) (pc : Nat) (L st : List xV) (σ : xS) : Prop :=
  (∀ v ∈ L, xg v) → (∀ v ∈ st, xg v) → xgs sh σ → L.length = nL → ∀ (H : Heap) (locs : List Loc) (ls : Array Slot), va_P D vwCl (xws a y ρ N sh σ) H → va_D A (xws a y ρ N sh σ) → va_S A s.heap H locs → lv_has ls nL (xlv a L) → W p l e R s m args below meth c H locs kz.1 kz.2 Qm (F0 m pc ls (st.map (xv a)))
/-- a method's end -/
def xQ (D : va_G) (y : Nat → ClassId) (a : Nat → Nat) (ρ : Nat → Nat → Option Nat) (N : Nat) (sh : xH) (A : Nat → Prop) (Q : Option xV → xS → Prop) : Array Value → State → Outcome → State → Prop := fun _ st oc t =>
  (∃ (r : Option xV) (σ' : xS), oc = .returned (r.map (xv a)) ∧ Q r σ' ∧ (∀ v, r = some v → xg v) ∧ xgs sh σ' ∧ va_P D vwCl (xws a y ρ N sh σ') t.heap ∧ va_D A (xws a y ρ N sh σ')) ∧ va_F A st t
/-- the tables know a field's link -/
def xFd (own : String) (i ci j : Nat) : Prop := ∃ (C : String) (T : u_T) (NN : Nat) (ty0 : Nat → FieldType), vwCl[ci]? = some (C, T, NN) ∧ (∀ w ∈ u_ws C T NN, w ∈ gw) ∧ (∀ k, k < NN → parseFieldDescriptor (T k).2.2.1 = some (ty0 k)) ∧ (∀ a, a < NN → ∀ b, b < NN → a ≠ b → (T a).2.1 ≠ (T b).2.1) ∧ j < NN ∧ Cond.fieldLink own i (T j).1 (T j).2.1 (T j).2.2.1 ∈ gw ∧ (ty0 j = .int ∨ ty0 j = .long ∨ ty0 j = .boolean → (T j).2.2.2 = false)
/-- a shape is that of its classes -/
def xShp (sh : xH) : Prop := ∀ t ci codes, sh t = some (0, ci, codes) → ∀ C T NN, vwCl[ci]? = some (C, T, NN) → ∀ j c, codes[j]? = some c → (c = 0 → parseFieldDescriptor (T j).2.2.1 = some .int) ∧ (c = 1 → parseFieldDescriptor (T j).2.2.1 = some .long) ∧ (c = 2 → parseFieldDescriptor (T j).2.2.1 = some .boolean)
def xLn (sh : xH) : Prop := ∀ t k n l, sh t = some (k + 1, n, l) → n < 2147483648
def xCn (own : String) (con : Nat → Option (Int ⊕ Int)) : Prop := (∀ i z, con i = some (.inl z) → xR32 z ∧ Cond.constant own i (Int32.ofInt z) ∈ gw) ∧ (∀ i z, con i = some (.inr z) → xR64 z ∧ Cond.constantLong own i (Int64.ofInt z) ∈ gw)
theorem xnar {z : Int} (h : z = 0 ∨ z = 1) : narrow .boolean (.int (Int32.ofInt z)) = .int (Int32.ofInt z) ∧ fits .boolean (.int (Int32.ofInt z)) = true := by
  rcases h with rfl | rfl <;> decide
theorem xgs_put {sh : xH} {σ : xS} {t j : Nat} {v : Int} (h : xgs sh σ) (h1 : ∀ ci codes, sh t = some (0, ci, codes) → ∀ c, codes[j]? = some c → (c = 0 ∨ c = 2 → xR32 v) ∧ (c = 1 → xR64 v)) (h2 : ∀ k n l, sh t = some (k + 1, n, l) → (k = 2 → xR64 v) ∧ (¬ k = 2 → xR32 v)) : xgs sh (xput σ t j v) := by
  refine ⟨fun u ci codes hu i c hc => ?_, fun u k n l hu i hi => ?_⟩
  · by_cases hut : u = t
    · subst hut
      by_cases hij : i = j
      · subst hij
        have e : xput σ u i v u i = v := by simp [xput]
        rw [e]; exact h1 ci codes hu c hc
      · have e : xput σ u j v u i = σ u i := by simp [xput, hij]
        rw [e]; exact h.1 u ci codes hu i c hc
    · rw [xput_ne hut]; exact h.1 u ci codes hu i c hc
  · by_cases hut : u = t
    · subst hut
      by_cases hij : i = j
      · subst hij
        have e : xput σ u i v u i = v := by simp [xput]
        rw [e]; exact ⟨(h2 k n l hu).1, fun a _ => (h2 k n l hu).2 a⟩
      · have e : xput σ u j v u i = σ u i := by simp [xput, hij]
        rw [e]; exact h.2 u k n l hu i hi
    · rw [xput_ne hut]; exact h.2 u k n l hu i hi
theorem xcons {v : xV} {st : List xV} (h : ∀ v ∈ st, xg v) (hv : xg v) : ∀ w ∈ v :: st, xg w := fun w hw => (List.mem_cons.mp hw).elim (fun e => e ▸ hv) (h w)
theorem xtl {v : xV} {st : List xV} (h : ∀ w ∈ v :: st, xg w) : ∀ w ∈ st, xg w := fun w hw => h w (List.mem_cons_of_mem _ hw)
theorem xhd {v : xV} {st : List xV} (h : ∀ w ∈ v :: st, xg w) : xg v := h v List.mem_cons_self
theorem xupd {σ : xS} {t : Nat} {j : Nat} {v : Int} : upd (fun i => Int32.ofInt (σ t i)) j (Int32.ofInt v) = fun i => Int32.ofInt (xput σ t j v t i) := by
  funext i
  by_cases h : i = j <;> simp [upd, xput, h]
theorem xupdL {σ : xS} {t : Nat} {j : Nat} {v : Int} : vp_updL (fun i => Int64.ofInt (σ t i)) j (Int64.ofInt v) = fun i => Int64.ofInt (xput σ t j v t i) := by
  funext i
  by_cases h : i = j <;> simp [vp_updL, xput, h]
section XS
variable {p : Program} {l : Launch} {e : Env} {R : Room} {s : State} {m : MethodId} {args : Array Value} {below : List Frame} {meth : Method} {c : Code}
variable {cc : ByteArray} {nL : Nat} {own : String} {D : va_G} {y : Nat → ClassId} {a : Nat → Nat} {ρ : Nat → Nat → Option Nat} {N : Nat} {sh : xH} {A : Nat → Prop} {Qm : State → Prop} {kz : Nat × Nat}
variable {fld : Nat → Option (Nat × Nat)} {con : Nat → Option (Int ⊕ Int)} {env : Nat → Option (Nat × xE)} {jmp : Nat → Option (List xI)} {rt : Nat} {X : Nat → List xV → xS → Prop} {Q : Option xV → xS → Prop}
theorem xto_s {f : List xI → Prop} {t : Nat} {L st : List xV} {σ : xS} (h : xto jmp X f (t : Int) L st σ) (hX : ∀ t L σ, X t L σ → XA kz p l e R s m args below meth c D y a ρ N sh A nL Qm t L [] σ) (hj : ∀ t k, jmp t = some k → xat k t ∧ xok cc k = true) (hf : ∀ k, xat k t → xok cc k = true → f k → XA kz p l e R s m args below meth c D y a ρ N sh A nL Qm t L st σ) : XA kz p l e R s m args below meth c D y a ρ N sh A nL Qm t L st σ := by
  unfold xto at h
  split at h
  · rename_i t' ht
    obtain rfl : t = t' := Int.ofNat.inj ht
    split at h
    · rename_i k hk
      exact hf k (hj t k hk).1 (hj t k hk).2 h
    · split at h
      · exact hX _ _ _ h
      · exact h.elim
  · exact h.elim
end XS
theorem xtab_e {x : Int} {go : Int → Prop} : ∀ (os : List Int) (lo : Int), xtab x go lo os → ∀ (i : Nat) (o : Int), os[i]? = some o → x = lo + i → go o := by
  intro os
  induction os with
  | nil => intro lo _ i o h; simp at h
  | cons o' os ih =>
    intro lo h i o hi hx
    match i, hi, hx with
    | 0, hi, hx =>
      obtain rfl : o' = o := by simpa using hi
      exact h.1 (by omega)
    | i + 1, hi, hx => exact ih (lo + 1) h.2 i o (by simpa using hi) (by push_cast at hx; omega)
theorem xget_e {sh : xH} {fld : Nat → Option (Nat × Nat)} {i t : Nat} {σ : xS} {K : xV → Prop} (h : xget sh fld i t σ K) : ∃ ci j codes c, fld i = some (ci, j) ∧ sh t = some (0, ci, codes) ∧ codes[j]? = some c ∧ (((c = 0 ∨ c = 2) ∧ xf32 (σ t j) (fun z => K (xvi z))) ∨ (c = 1 ∧ xf64 (σ t j) (fun z => K (xvl z))) ∨ ∃ d, c = d + 4 ∧ K (xvr d)) := by
  unfold xget at h
  split at h
  · rename_i ci j hf
    split at h
    · rename_i ci' codes hs
      split at h
      · rename_i e
        subst e
        split at h
        · rename_i hc; exact ⟨_, _, _, _, hf, hs, hc, Or.inl ⟨Or.inl rfl, h⟩⟩
        · rename_i hc; exact ⟨_, _, _, _, hf, hs, hc, Or.inr (Or.inl ⟨rfl, h⟩)⟩
        · rename_i hc; exact ⟨_, _, _, _, hf, hs, hc, Or.inl ⟨Or.inr rfl, h⟩⟩
        · rename_i d hc; exact ⟨_, _, _, _, hf, hs, hc, Or.inr (Or.inr ⟨d, rfl, h⟩)⟩
        · exact h.elim
      · exact h.elim
    · exact h.elim
  · exact h.elim
theorem xputf_e {sh : xH} {fld : Nat → Option (Nat × Nat)} {i t : Nat} {v : xV} {σ : xS} {K : xS → Prop} (h : xputf sh fld i t v σ K) : ∃ ci j codes c z, fld i = some (ci, j) ∧ sh t = some (0, ci, codes) ∧ codes[j]? = some c ∧ K (xput σ t j z) ∧ ((c = 0 ∧ v = xvi z) ∨ (c = 1 ∧ v = xvl z) ∨ (c = 2 ∧ v = xvi z ∧ (z = 0 ∨ z = 1))) := by
  unfold xputf at h
  split at h
  · rename_i ci j hf
    split at h
    · rename_i ci' codes hs
      split at h
      · rename_i e
        subst e
        split at h
        · rename_i z hc; exact ⟨_, _, _, _, z, hf, hs, hc, h, Or.inl ⟨rfl, rfl⟩⟩
        · rename_i z hc; exact ⟨_, _, _, _, z, hf, hs, hc, h, Or.inr (Or.inl ⟨rfl, rfl⟩)⟩
        · rename_i z hc; exact ⟨_, _, _, _, z, hf, hs, hc, h.2, Or.inr (Or.inr ⟨rfl, rfl, h.1⟩)⟩
        · exact h.elim
      · exact h.elim
    · exact h.elim
  · exact h.elim
theorem xcall_e {env : Nat → Option (Nat × xE)} {i : Nat} {st : List xV} {σ : xS} {K : Option xV → List xV → xS → Prop} (h : xcall env i st σ K) : ∃ n E, env i = some (n, E) ∧ n ≤ st.length ∧ (st.drop n).length ≤ 4 ∧ E (st.take n).reverse σ (fun r σ' => K r (st.drop n) σ') := by
  unfold xcall at h
  split at h
  · rename_i n E he
    split at h
    · rename_i hc; exact ⟨n, E, he, hc.1, hc.2, h⟩
    · exact h.elim
  · exact h.elim
theorem xstore_e {sh : xH} {t : Nat} {i v : Int} {σ : xS} {K : xS → Prop} (h : xstore sh t i v σ K) : ∃ k n l, sh t = some (k + 1, n, l) ∧ (0 ≤ i ∧ i < n) ∧ ((k = 0 ∧ K (xput σ t i.toNat (xbyte v))) ∨ (k = 1 ∧ K (xput σ t i.toNat v)) ∨ (k = 3 ∧ K (xput σ t i.toNat (xbool v)))) := by
  obtain ⟨k, n, l, hs, h1, h2⟩ := xarr_e h
  refine ⟨k, n, l, hs, h1, ?_⟩
  match k, h2 with
  | 0, h2 => exact Or.inl ⟨rfl, h2⟩
  | 1, h2 => exact Or.inr (Or.inl ⟨rfl, h2⟩)
  | 3, h2 => exact Or.inr (Or.inr ⟨rfl, h2⟩)
theorem xty (y : Nat → ClassId) {k : Nat} (hk : k < 4) : ∃ ty, (px_tys y)[k]? = some (y k, ty) := by
  match k, hk with
  | 0, _ => exact ⟨_, rfl⟩
  | 1, _ => exact ⟨_, rfl⟩
  | 2, _ => exact ⟨_, rfl⟩
  | 3, _ => exact ⟨_, rfl⟩
