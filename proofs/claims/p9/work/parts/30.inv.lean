/-! What holds of the reference between calls. s is the cell 2; a game is its places 0 .. 583. -/
def sm (n : Nat) (g : Nat → Int) : Int := match n with
  | 0 => 0
  | n + 1 => sm n g + g n
def hd (f : Nat → Int) (p k : Nat) : Int := f (60 + 13 * p + k)
def kn (f : Nat → Int) (p k : Nat) : Int := f (151 + 13 * p + k)
def ct (f : Nat → Int) (n : Nat) (k : Nat) : Int := sm n (fun i => if f (8 + i) = k then 1 else 0)
/-- numbers: kinds, persons, refill, turn, vain, heap -/
def VN (f : Nat → Int) : Prop := (0 ≤ f 0 ∧ f 0 ≤ 13) ∧ (0 ≤ f 1 ∧ f 1 ≤ 6) ∧ (0 ≤ f 3 ∧ f 3 ≤ 9) ∧ (-1 ≤ f 4 ∧ f 4 < f 1) ∧ (0 ≤ f 6 ∧ f 6 ≤ f 1 ∧ (¬ f 4 = -1 → f 6 < f 1)) ∧ (0 ≤ f 7 ∧ f 7 ≤ 52)
/-- the heap's cards are of the kinds -/
def VH (f : Nat → Int) : Prop := ∀ i : Nat, (i : Int) < f 7 → 0 ≤ f (8 + i) ∧ f (8 + i) < f 0
/-- hands, and what is known of them -/
def VK (f : Nat → Int) : Prop := ∀ p k, p < 6 → k < 13 → 0 ≤ kn f p k ∧ kn f p k ≤ hd f p k ∧ ((f 1 ≤ p ∨ f 0 ≤ k) → hd f p k = 0)
def VO (f : Nat → Int) : Prop := ∀ p, p < 6 → f (229 + p) + sm 13 (kn f p) = sm 13 (hd f p)
/-- of each kind: in hands, in the heap, in a book -/
def VB (f : Nat → Int) : Prop := ∀ k, k < 13 → (0 ≤ f (138 + k) ∧ f (138 + k) ≤ 6 ∧ f (571 + k) ≤ 4) ∧ sm 6 (fun p => hd f p k) + ct f (f 7).toNat k + (if 0 < f (138 + k) then 4 else 0) = f (571 + k)
def VD (f : Nat → Int) : Prop := ∀ p, p < 6 → 0 ≤ f (565 + p) ∧ f (565 + p) ≤ 13
def VT (f : Nat → Int) : Prop := ¬ f 4 = -1 → 0 < sm 13 (hd f (f 4).toNat)
def VG (f : Nat → Int) : Prop := VN f ∧ VH f ∧ VK f ∧ VO f ∧ VB f ∧ VD f ∧ VT f
/-- the sentence's codes: what each leaves to be joined -/
def CO (f : Nat → Int) : Prop := (0 ≤ f 584 ∧ f 584 ≤ 40) ∧ ∃ d : Nat → Int, d 0 = 0 ∧ ∀ i : Nat, (i : Int) < f 584 → (f (585 + 3 * i) = 10 ∧ 1 ≤ d i ∧ d (i + 1) = d i) ∨ ((f (585 + 3 * i) = 11 ∨ f (585 + 3 * i) = 12) ∧ 2 ≤ d i ∧ d (i + 1) = d i - 1) ∨ ((0 ≤ f (585 + 3 * i) ∧ f (585 + 3 * i) ≤ 6) ∧ 0 ≤ d i ∧ d (i + 1) = d i + 1 ∧ (f (585 + 3 * i) = 1 ∨ f (585 + 3 * i) = 2 → 0 ≤ f (587 + 3 * i) ∧ f (587 + 3 * i) ≤ 5))
def blk (s u : Nat → Int) (j : Nat) : Nat → Int := fun i => if i < 4 then s i else u (580 * j + (i - 4))
def RI (σ : xS) : Prop := VG (σ 2) ∧ CO (σ 2) ∧ (0 ≤ σ 0 2 ∧ σ 0 2 ≤ 940) ∧ (0 ≤ σ 0 27 ∧ σ 0 27 ≤ 8) ∧ (∀ j : Nat, (j : Int) < σ 0 27 → VG (blk (σ 2) (σ 8) j)) ∧ (0 ≤ σ 0 37 ∧ σ 0 37 ≤ 65) ∧ (∀ k, k < 2 → ¬ σ 27 k = 0 → VG (fun i => σ 25 (765 * k + i)) ∧ CO (fun i => σ 25 (765 * k + i)))
/-- the invariant holds, and length and isKept are as they were -/
def XF (σ0 σ : xS) : Prop := σ 1 = σ0 1 ∧ σ 6 = σ0 6 ∧ σ 5 = σ0 5
theorem XF.tr {σ0 σ1 σ2 : xS} (h1 : XF σ0 σ1) (h2 : XF σ1 σ2) : XF σ0 σ2 := ⟨h2.1.trans h1.1, h2.2.1.trans h1.2.1, h2.2.2.trans h1.2.2⟩
def RK (σ0 σ : xS) : Prop := RI σ ∧ σ 0 2 = σ0 0 2 ∧ σ 27 = σ0 27 ∧ XF σ0 σ
theorem RK.rf {σ : xS} (h : RI σ) : RK σ σ := ⟨h, rfl, rfl, rfl, rfl, rfl⟩
theorem RK.tr {σ0 σ1 σ2 : xS} (h1 : RK σ0 σ1) (h2 : RK σ1 σ2) : RK σ0 σ2 := ⟨h2.1, h2.2.1.trans h1.2.1, h2.2.2.1.trans h1.2.2.1, h1.2.2.2.tr h2.2.2.2⟩
theorem RI.eq {σ σ' : xS} (h : RI σ) (h2 : σ' 2 = σ 2) (h8 : σ' 8 = σ 8) (h25 : σ' 25 = σ 25) (h27 : σ' 27 = σ 27) (a : σ' 0 2 = σ 0 2) (b : σ' 0 27 = σ 0 27) (c : σ' 0 37 = σ 0 37) : RI σ' := by
  unfold RI
  rw [h2, h8, h25, h27, a, b, c]
  exact h
theorem xput_o {σ : xS} {t j : Nat} {v : Int} {i : Nat} (h : i ≠ j) : xput σ t j v t i = σ t i := by simp [xput, h]
theorem xput_s {σ : xS} {t j : Nat} {v : Int} : xput σ t j v t j = v := by simp [xput]
theorem xput_id {σ : xS} {t j : Nat} {v : Int} (h : v = σ t j) : xput σ t j v = σ := by
  funext t' j'
  unfold xput
  split
  · split
    · rename_i a b; rw [a, b, h]
    · rfl
  · rfl
/-- a field that the invariant doesn't speak of -/
theorem RK.p0 {σ0 σ : xS} (h : RK σ0 σ) {j : Nat} {v : Int} (h1 : j ≠ 2) (h2 : j ≠ 27) (h3 : j ≠ 37) : RK σ0 (xput σ 0 j v) :=
  ⟨h.1.eq (xput_ne (by decide)) (xput_ne (by decide)) (xput_ne (by decide)) (xput_ne (by decide)) (xput_o (Ne.symm h1)) (xput_o (Ne.symm h2)) (xput_o (Ne.symm h3)), (xput_o (Ne.symm h1)).trans h.2.1, (xput_ne (by decide)).trans h.2.2.1, (xput_ne (by decide)).trans h.2.2.2.1, (xput_ne (by decide)).trans h.2.2.2.2.1, (xput_ne (by decide)).trans h.2.2.2.2.2⟩
/-- a cell that it doesn't speak of -/
theorem RK.pt {σ0 σ : xS} (h : RK σ0 σ) {t j : Nat} {v : Int} (h0 : 0 ≠ t) (h2 : 2 ≠ t) (h8 : 8 ≠ t) (h25 : 25 ≠ t) (h27 : 27 ≠ t) (h1 : 1 ≠ t := by decide) (h6 : 6 ≠ t := by decide) (h5 : 5 ≠ t := by decide) : RK σ0 (xput σ t j v) :=
  ⟨h.1.eq (xput_ne h2) (xput_ne h8) (xput_ne h25) (xput_ne h27) (by rw [xput_ne h0]) (by rw [xput_ne h0]) (by rw [xput_ne h0]), (by rw [xput_ne h0]; exact h.2.1), (xput_ne h27).trans h.2.2.1, (xput_ne h1).trans h.2.2.2.1, (xput_ne h6).trans h.2.2.2.2.1, (xput_ne h5).trans h.2.2.2.2.2⟩
theorem RI.n {σ : xS} (h : RI σ) : VN (σ 2) := h.1.1
theorem RI.kinds {σ : xS} (h : RI σ) : 0 ≤ σ 2 0 ∧ σ 2 0 ≤ 13 := h.1.1.1
theorem RI.persons {σ : xS} (h : RI σ) : 0 ≤ σ 2 1 ∧ σ 2 1 ≤ 6 := h.1.1.2.1
theorem RI.refill {σ : xS} (h : RI σ) : 0 ≤ σ 2 3 ∧ σ 2 3 ≤ 9 := h.1.1.2.2.1
theorem RI.turn {σ : xS} (h : RI σ) : -1 ≤ σ 2 4 ∧ σ 2 4 < σ 2 1 := h.1.1.2.2.2.1
theorem RI.vain {σ : xS} (h : RI σ) : 0 ≤ σ 2 6 ∧ σ 2 6 ≤ σ 2 1 ∧ (¬ σ 2 4 = -1 → σ 2 6 < σ 2 1) := h.1.1.2.2.2.2.1
theorem RI.heaped {σ : xS} (h : RI σ) : 0 ≤ σ 2 7 ∧ σ 2 7 ≤ 52 := h.1.1.2.2.2.2.2
theorem RI.len {σ : xS} (h : RI σ) : 0 ≤ σ 0 2 ∧ σ 0 2 ≤ 940 := h.2.2.1
theorem RI.um {σ : xS} (h : RI σ) : 0 ≤ σ 0 27 ∧ σ 0 27 ≤ 8 := h.2.2.2.1
theorem RI.sw {σ : xS} (h : RI σ) : 0 ≤ σ 0 37 ∧ σ 0 37 ≤ 65 := h.2.2.2.2.2.1
theorem RI.heap {σ : xS} (h : RI σ) {i : Nat} (hi : (i : Int) < σ 2 7) : 0 ≤ σ 2 (8 + i) ∧ σ 2 (8 + i) < σ 2 0 := h.1.2.1 i hi
/-- sums -/
theorem sm_congr {n : Nat} {g g' : Nat → Int} (h : ∀ i, i < n → g i = g' i) : sm n g = sm n g' := by
  induction n with
  | zero => rfl
  | succ n ih =>
    unfold sm
    rw [ih (fun i hi => h i (by omega)), h n (by omega)]
theorem sm_le {n : Nat} {g g' : Nat → Int} (h : ∀ i, i < n → g i ≤ g' i) : sm n g ≤ sm n g' := by
  induction n with
  | zero => exact Int.le_refl _
  | succ n ih =>
    unfold sm
    have h1 := ih (fun i hi => h i (by omega))
    have h2 := h n (by omega)
    omega
theorem sm_nn {n : Nat} {g : Nat → Int} (h : ∀ i, i < n → 0 ≤ g i) : 0 ≤ sm n g := by
  induction n with
  | zero => exact Int.le_refl _
  | succ n ih =>
    unfold sm
    have h1 := ih (fun i hi => h i (by omega))
    have h2 := h n (by omega)
    omega
theorem sm_ge {n : Nat} {g : Nat → Int} (h : ∀ i, i < n → 0 ≤ g i) {j : Nat} (hj : j < n) : g j ≤ sm n g := by
  induction n with
  | zero => omega
  | succ n ih =>
    unfold sm
    have h0 := sm_nn (n := n) (fun i hi => h i (by omega))
    have h2 := h n (by omega)
    by_cases hjn : j = n
    · subst hjn; omega
    · have h1 := ih (fun i hi => h i (by omega)) (by omega)
      omega
theorem sm_upd {n : Nat} {g g' : Nat → Int} {j : Nat} (hj : j < n) (h : ∀ i, i < n → i ≠ j → g' i = g i) : sm n g' = sm n g - g j + g' j := by
  induction n with
  | zero => omega
  | succ n ih =>
    unfold sm
    by_cases hjn : j = n
    · subst hjn
      rw [sm_congr (g := g') (g' := g) (fun i hi => h i (by omega) (by omega))]
      omega
    · rw [ih (by omega) (fun i hi hne => h i (by omega) hne), h n (by omega) (Ne.symm hjn)]
      omega
theorem sm_const {n : Nat} {c : Int} : sm n (fun _ => c) = n * c := by
  induction n with
  | zero => simp [sm]
  | succ n ih =>
    unfold sm
    rw [ih]
    push_cast
    rw [Int.add_mul]
    omega
/-- no hand holds more than four of a kind, nobody more than 52 cards -/
theorem VG.hand {f : Nat → Int} (h : VG f) {p k : Nat} (hp : p < 6) (hk : k < 13) : 0 ≤ hd f p k ∧ hd f p k ≤ 4 := by
  have h1 := h.2.2.1
  have h2 := (h.2.2.2.2.1 k hk).2
  have h3 := (h.2.2.2.2.1 k hk).1
  have h0 : ∀ i, i < 6 → 0 ≤ (fun p => hd f p k) i := fun i hi => by have := h1 i k hi hk; dsimp only; omega
  have h4 := sm_ge (n := 6) (g := fun p => hd f p k) h0 hp
  have h5 : 0 ≤ ct f (f 7).toNat k := sm_nn (fun i _ => by split <;> omega)
  have h6 := h1 p k hp hk
  split at h2 <;> omega
theorem VG.cards {f : Nat → Int} (h : VG f) {p : Nat} (hp : p < 6) : 0 ≤ sm 13 (hd f p) ∧ sm 13 (hd f p) ≤ 52 := by
  refine ⟨sm_nn (fun i hi => (h.hand hp hi).1), ?_⟩
  have h1 := sm_le (n := 13) (g := hd f p) (g' := fun _ => 4) (fun i hi => (h.hand hp hi).2)
  rw [sm_const] at h1
  exact h1
theorem VG.others {f : Nat → Int} (h : VG f) {p : Nat} (hp : p < 6) : 0 ≤ f (229 + p) ∧ f (229 + p) ≤ 52 := by
  have h1 := h.2.2.2.1 p hp
  have h2 := h.cards hp
  have h3 := sm_le (n := 13) (g := kn f p) (g' := hd f p) (fun i hi => (h.2.2.1 p i hp hi).2.1)
  have h4 := sm_nn (n := 13) (g := kn f p) (fun i hi => (h.2.2.1 p i hp hi).1)
  omega
/-- places of s by whole numbers -/
theorem ix2 {z : Int} {b : Nat} (h1 : (b : Int) ≤ z) (h2 : z ≤ b + 77) : ∃ p k : Nat, p < 6 ∧ k < 13 ∧ z.toNat = b + 13 * p + k := ⟨((z - b) / 13).toNat, ((z - b) % 13).toNat, by omega, by omega, by omega⟩
theorem RI.handI {σ : xS} (h : RI σ) {z : Int} (h1 : 60 ≤ z) (h2 : z ≤ 137) : 0 ≤ σ 2 z.toNat ∧ σ 2 z.toNat ≤ 4 := by
  obtain ⟨p, k, hp, hk, e⟩ := ix2 (b := 60) h1 (by omega)
  rw [e]; exact h.1.hand hp hk
theorem RI.knI {σ : xS} (h : RI σ) {z : Int} (h1 : 151 ≤ z) (h2 : z ≤ 228) : 0 ≤ σ 2 z.toNat ∧ σ 2 z.toNat ≤ 4 := by
  obtain ⟨p, k, hp, hk, e⟩ := ix2 (b := 151) h1 (by omega)
  rw [e]
  have h3 := h.1.2.2.1 p k hp hk
  have h4 := h.1.hand hp hk
  exact ⟨h3.1, Int.le_trans h3.2.1 h4.2⟩
theorem RI.othI {σ : xS} (h : RI σ) {z : Int} (h1 : 229 ≤ z) (h2 : z ≤ 234) : 0 ≤ σ 2 z.toNat ∧ σ 2 z.toNat ≤ 52 := by
  have e : z.toNat = 229 + (z - 229).toNat := by omega
  rw [e]; exact h.1.others (by omega)
theorem RI.bookI {σ : xS} (h : RI σ) {z : Int} (h1 : 138 ≤ z) (h2 : z ≤ 150) : 0 ≤ σ 2 z.toNat ∧ σ 2 z.toNat ≤ 6 := by
  have e : z.toNat = 138 + (z - 138).toNat := by omega
  have h3 := (h.1.2.2.2.2.1 (z - 138).toNat (by omega)).1
  rw [e]; exact ⟨h3.1, h3.2.1⟩
theorem RI.drewI {σ : xS} (h : RI σ) {z : Int} (h1 : 565 ≤ z) (h2 : z ≤ 570) : 0 ≤ σ 2 z.toNat ∧ σ 2 z.toNat ≤ 13 := by
  have e : z.toNat = 565 + (z - 565).toNat := by omega
  rw [e]; exact h.1.2.2.2.2.2.1 (z - 565).toNat (by omega)
theorem VG.play {f : Nat → Int} (h : VG f) {k : Nat} (hk : k < 13) : 0 ≤ f (571 + k) ∧ f (571 + k) ≤ 4 := by
  have h2 := (h.2.2.2.2.1 k hk).2
  have h3 := (h.2.2.2.2.1 k hk).1
  have h4 : 0 ≤ sm 6 (fun p => hd f p k) := sm_nn (fun i hi => (h.hand hi hk).1)
  have h5 : 0 ≤ ct f (f 7).toNat k := sm_nn (fun i _ => by split <;> omega)
  split at h2 <;> omega
theorem RI.playI {σ : xS} (h : RI σ) {z : Int} (h1 : 571 ≤ z) (h2 : z ≤ 583) : 0 ≤ σ 2 z.toNat ∧ σ 2 z.toNat ≤ 4 := by
  have e : z.toNat = 571 + (z - 571).toNat := by omega
  rw [e]; exact h.1.play (by omega)
theorem RI.heapI {σ : xS} (h : RI σ) {z : Int} (h1 : 8 ≤ z) (h2 : z < 8 + σ 2 7) : 0 ≤ σ 2 z.toNat ∧ σ 2 z.toNat < σ 2 0 := by
  have e : z.toNat = 8 + (z - 8).toNat := by omega
  rw [e]; exact h.1.2.1 (z - 8).toNat (by omega)
theorem x255b (x : Int) : 0 ≤ (Int32.ofInt x &&& Int32.ofInt 255).toInt ∧ (Int32.ofInt x &&& Int32.ofInt 255).toInt ≤ 255 := by
  obtain ⟨j, hj, e⟩ := pk_andE (Int32.ofInt x) (m := Int32.ofInt 255) 8 rfl
  rw [e, nI_toInt (by omega)]
  omega
theorem x1b (x : Int) : 0 ≤ (Int32.ofInt x &&& Int32.ofInt 1).toInt ∧ (Int32.ofInt x &&& Int32.ofInt 1).toInt ≤ 1 := by
  obtain ⟨j, hj, e⟩ := pk_andE (Int32.ofInt x) (m := Int32.ofInt 1) 1 rfl
  rw [e, nI_toInt (by omega)]
  omega
/-- nothing but these cells, and these fields of the object, has changed -/
def Fr (ts js : List Nat) (σ σ' : xS) : Prop := (∀ t, t ≠ 0 → t ∉ ts → σ' t = σ t) ∧ ∀ j, j ∉ js → σ' 0 j = σ 0 j
theorem Fr.rf {ts js : List Nat} {σ : xS} : Fr ts js σ σ := ⟨fun _ _ _ => rfl, fun _ _ => rfl⟩
theorem Fr.p {ts js : List Nat} {σ σ' : xS} (h : Fr ts js σ σ') {j : Nat} {v : Int} (hj : j ∈ js) : Fr ts js σ (xput σ' 0 j v) :=
  ⟨fun t ht hn => (xput_ne ht).trans (h.1 t ht hn), fun i hi => (xput_o (fun e => hi (by rw [e]; exact hj))).trans (h.2 i hi)⟩
theorem Fr.pt {ts js : List Nat} {σ σ' : xS} (h : Fr ts js σ σ') {t j : Nat} {v : Int} (ht : t ∈ ts) (h0 : 0 ≠ t) : Fr ts js σ (xput σ' t j v) :=
  ⟨fun u hu hn => (xput_ne (fun e => hn (by rw [e]; exact ht))).trans (h.1 u hu hn), fun i hi => by rw [xput_ne h0]; exact h.2 i hi⟩
theorem Fr.tr {ts js ts' js' : List Nat} {σ σ1 σ2 : xS} (h : Fr ts js σ σ1) (h2 : Fr ts' js' σ1 σ2) (ht : ∀ t ∈ ts', t ∈ ts) (hs : ∀ j ∈ js', j ∈ js) : Fr ts js σ σ2 :=
  ⟨fun t h0 hn => (h2.1 t h0 (fun a => hn (ht t a))).trans (h.1 t h0 hn), fun i hi => (h2.2 i (fun hj => hi (hs i hj))).trans (h.2 i hi)⟩
theorem RK.fr {ts js : List Nat} {σ0 σ σ' : xS} (h : RK σ0 σ) (h2 : Fr ts js σ σ') (t2 : 2 ∉ ts) (t8 : 8 ∉ ts) (t25 : 25 ∉ ts) (t27 : 27 ∉ ts) (a : 2 ∉ js) (b : 27 ∉ js) (c : 37 ∉ js) (t1 : 1 ∉ ts := by decide) (t6 : 6 ∉ ts := by decide) (t5 : 5 ∉ ts := by decide) : RK σ0 σ' :=
  h.tr ⟨h.1.eq (h2.1 2 (by decide) t2) (h2.1 8 (by decide) t8) (h2.1 25 (by decide) t25) (h2.1 27 (by decide) t27) (h2.2 2 a) (h2.2 27 b) (h2.2 37 c), h2.2 2 a, h2.1 27 (by decide) t27, h2.1 1 (by decide) t1, h2.1 6 (by decide) t6, h2.1 5 (by decide) t5⟩
/-- the byte at p, or -1 behind the end -/
def pkf (σ : xS) : Int := if σ 0 4 < σ 0 3 then (Int32.ofInt (σ 1 (σ 0 4).toNat) &&& Int32.ofInt 255).toInt else -1
theorem pkf_eq {σ σ' : xS} (h1 : σ' 1 = σ 1) (h4 : σ' 0 4 = σ 0 4) (h3 : σ' 0 3 = σ 0 3) : pkf σ' = pkf σ := by
  unfold pkf
  rw [h1, h4, h3]
theorem pkf_r (σ : xS) : (σ 0 4 < σ 0 3 ∧ 0 ≤ pkf σ ∧ pkf σ ≤ 255) ∨ (σ 0 3 ≤ σ 0 4 ∧ pkf σ = -1) := by
  unfold pkf
  split
  · exact Or.inl ⟨by assumption, (x255b _).1, (x255b _).2⟩
  · exact Or.inr ⟨by omega, rfl⟩
/-- a number of at most three digits or letters stays small -/
def nb (span n : Int) : Prop := (span = 0 → n = 0) ∧ (span = 1 → n ≤ 300) ∧ (span = 2 → n ≤ 4000)
def sp0 (span c : Int) : Prop := span = 0 → 48 ≤ c ∧ (97 ≤ c ∧ c ≤ 122 ∨ c ≤ 57)
