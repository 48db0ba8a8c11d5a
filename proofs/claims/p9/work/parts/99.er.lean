theorem q_1_32 : Cond.classLink RX10 20 RX2 ∈ gw := gw_1 32 (by decide +kernel) rfl
theorem q_1_34 : Cond.methodLink RX10 22 yX2_init ∈ gw := gw_1 34 (by decide +kernel) rfl
theorem q_1_151 : Cond.classLink RX10 30 RX7 ∈ gw := gw_1 151 (by decide +kernel) rfl
theorem q_1_152 : Cond.instantiable RX7 2 ∈ gw := gw_1 152 (by decide +kernel) rfl
theorem q_1_154 : Cond.instanceMethod yX7_init ∈ gw := gw_1 154 (by decide +kernel) rfl
theorem q_1_155 : Cond.code yX7_init cX7_init 1 none ∈ gw := gw_1 155 (by decide +kernel) rfl
theorem dX10_image_0 : decode cX10_image 0 = .ok (.iload_n 1, 1) := by decide +kernel
theorem dX10_image_1 : decode cX10_image 1 = .ok (.ifCond .lt 8, 3) := by decide +kernel
theorem dX10_image_4 : decode cX10_image 4 = .ok (.iload_n 1, 1) := by decide +kernel
theorem dX10_image_5 : decode cX10_image 5 = .ok (.iconst 2, 1) := by decide +kernel
theorem dX10_image_6 : decode cX10_image 6 = .ok (.if_icmp .lt 5, 3) := by decide +kernel
theorem dX10_image_9 : decode cX10_image 9 = .ok (.iconst 0, 1) := by decide +kernel
theorem dX10_image_10 : decode cX10_image 10 = .ok (.ireturn, 1) := by decide +kernel
theorem dX10_image_11 : decode cX10_image 11 = .ok (.aload_n 0, 1) := by decide +kernel
theorem dX10_image_12 : decode cX10_image 12 = .ok (.getfield 74, 3) := by decide +kernel
theorem dX10_image_15 : decode cX10_image 15 = .ok (.iload_n 1, 1) := by decide +kernel
theorem dX10_image_16 : decode cX10_image 16 = .ok (.aaload, 1) := by decide +kernel
theorem dX10_image_17 : decode cX10_image 17 = .ok (.ifnull 12, 3) := by decide +kernel
theorem dX10_image_20 : decode cX10_image 20 = .ok (.aload_n 0, 1) := by decide +kernel
theorem dX10_image_21 : decode cX10_image 21 = .ok (.getfield 78, 3) := by decide +kernel
theorem dX10_image_24 : decode cX10_image 24 = .ok (.iload_n 1, 1) := by decide +kernel
theorem dX10_image_25 : decode cX10_image 25 = .ok (.aaload, 1) := by decide +kernel
theorem dX10_image_26 : decode cX10_image 26 = .ok (.ifnonnull 29, 3) := by decide +kernel
theorem dX10_image_29 : decode cX10_image 29 = .ok (.aload_n 0, 1) := by decide +kernel
theorem dX10_image_30 : decode cX10_image 30 = .ok (.getfield 74, 3) := by decide +kernel
theorem dX10_image_33 : decode cX10_image 33 = .ok (.iload_n 1, 1) := by decide +kernel
theorem dX10_image_34 : decode cX10_image 34 = .ok (.new 20, 3) := by decide +kernel
theorem dX10_image_37 : decode cX10_image 37 = .ok (.dup, 1) := by decide +kernel
theorem dX10_image_38 : decode cX10_image 38 = .ok (.invokespecial 22, 3) := by decide +kernel
theorem dX10_image_41 : decode cX10_image 41 = .ok (.aastore, 1) := by decide +kernel
theorem dX10_image_42 : decode cX10_image 42 = .ok (.aload_n 0, 1) := by decide +kernel
theorem dX10_image_43 : decode cX10_image 43 = .ok (.getfield 78, 3) := by decide +kernel
theorem dX10_image_46 : decode cX10_image 46 = .ok (.iload_n 1, 1) := by decide +kernel
theorem dX10_image_47 : decode cX10_image 47 = .ok (.new 30, 3) := by decide +kernel
theorem dX10_image_50 : decode cX10_image 50 = .ok (.dup, 1) := by decide +kernel
theorem dX10_image_51 : decode cX10_image 51 = .ok (.invokespecial 32, 3) := by decide +kernel
theorem dX10_image_54 : decode cX10_image 54 = .ok (.aastore, 1) := by decide +kernel
theorem dX10_image_55 : decode cX10_image 55 = .ok (.aload_n 0, 1) := by decide +kernel
theorem dX10_image_56 : decode cX10_image 56 = .ok (.getfield 74, 3) := by decide +kernel
theorem dX10_image_59 : decode cX10_image 59 = .ok (.iload_n 1, 1) := by decide +kernel
theorem dX10_image_60 : decode cX10_image 60 = .ok (.aaload, 1) := by decide +kernel
theorem dX10_image_61 : decode cX10_image 61 = .ok (.aload_n 0, 1) := by decide +kernel
theorem dX10_image_62 : decode cX10_image 62 = .ok (.getfield 23, 3) := by decide +kernel
theorem dX10_image_65 : decode cX10_image 65 = .ok (.invokevirtual 127, 3) := by decide +kernel
theorem dX10_image_68 : decode cX10_image 68 = .ok (.aload_n 0, 1) := by decide +kernel
theorem dX10_image_69 : decode cX10_image 69 = .ok (.getfield 78, 3) := by decide +kernel
theorem dX10_image_72 : decode cX10_image 72 = .ok (.iload_n 1, 1) := by decide +kernel
theorem dX10_image_73 : decode cX10_image 73 = .ok (.aaload, 1) := by decide +kernel
theorem dX10_image_74 : decode cX10_image 74 = .ok (.aload_n 0, 1) := by decide +kernel
theorem dX10_image_75 : decode cX10_image 75 = .ok (.getfield 33, 3) := by decide +kernel
theorem dX10_image_78 : decode cX10_image 78 = .ok (.invokevirtual 348, 3) := by decide +kernel
theorem dX10_image_81 : decode cX10_image 81 = .ok (.iconst 1, 1) := by decide +kernel
theorem dX10_image_82 : decode cX10_image 82 = .ok (.ireturn, 1) := by decide +kernel
theorem dX10_restore_0 : decode cX10_restore 0 = .ok (.iload_n 1, 1) := by decide +kernel
theorem dX10_restore_1 : decode cX10_restore 1 = .ok (.ifCond .lt 26, 3) := by decide +kernel
theorem dX10_restore_4 : decode cX10_restore 4 = .ok (.iload_n 1, 1) := by decide +kernel
theorem dX10_restore_5 : decode cX10_restore 5 = .ok (.iconst 2, 1) := by decide +kernel
theorem dX10_restore_6 : decode cX10_restore 6 = .ok (.if_icmp .ge 21, 3) := by decide +kernel
theorem dX10_restore_9 : decode cX10_restore 9 = .ok (.aload_n 0, 1) := by decide +kernel
theorem dX10_restore_10 : decode cX10_restore 10 = .ok (.getfield 74, 3) := by decide +kernel
theorem dX10_restore_13 : decode cX10_restore 13 = .ok (.iload_n 1, 1) := by decide +kernel
theorem dX10_restore_14 : decode cX10_restore 14 = .ok (.aaload, 1) := by decide +kernel
theorem dX10_restore_15 : decode cX10_restore 15 = .ok (.ifnull 12, 3) := by decide +kernel
theorem dX10_restore_18 : decode cX10_restore 18 = .ok (.aload_n 0, 1) := by decide +kernel
theorem dX10_restore_19 : decode cX10_restore 19 = .ok (.getfield 78, 3) := by decide +kernel
theorem dX10_restore_22 : decode cX10_restore 22 = .ok (.iload_n 1, 1) := by decide +kernel
theorem dX10_restore_23 : decode cX10_restore 23 = .ok (.aaload, 1) := by decide +kernel
theorem dX10_restore_24 : decode cX10_restore 24 = .ok (.ifnonnull 5, 3) := by decide +kernel
theorem dX10_restore_27 : decode cX10_restore 27 = .ok (.iconst 0, 1) := by decide +kernel
theorem dX10_restore_28 : decode cX10_restore 28 = .ok (.ireturn, 1) := by decide +kernel
theorem dX10_restore_29 : decode cX10_restore 29 = .ok (.aload_n 0, 1) := by decide +kernel
theorem dX10_restore_30 : decode cX10_restore 30 = .ok (.getfield 23, 3) := by decide +kernel
theorem dX10_restore_33 : decode cX10_restore 33 = .ok (.aload_n 0, 1) := by decide +kernel
theorem dX10_restore_34 : decode cX10_restore 34 = .ok (.getfield 74, 3) := by decide +kernel
theorem dX10_restore_37 : decode cX10_restore 37 = .ok (.iload_n 1, 1) := by decide +kernel
theorem dX10_restore_38 : decode cX10_restore 38 = .ok (.aaload, 1) := by decide +kernel
theorem dX10_restore_39 : decode cX10_restore 39 = .ok (.invokevirtual 127, 3) := by decide +kernel
theorem dX10_restore_42 : decode cX10_restore 42 = .ok (.aload_n 0, 1) := by decide +kernel
theorem dX10_restore_43 : decode cX10_restore 43 = .ok (.getfield 33, 3) := by decide +kernel
theorem dX10_restore_46 : decode cX10_restore 46 = .ok (.aload_n 0, 1) := by decide +kernel
theorem dX10_restore_47 : decode cX10_restore 47 = .ok (.getfield 78, 3) := by decide +kernel
theorem dX10_restore_50 : decode cX10_restore 50 = .ok (.iload_n 1, 1) := by decide +kernel
theorem dX10_restore_51 : decode cX10_restore 51 = .ok (.aaload, 1) := by decide +kernel
theorem dX10_restore_52 : decode cX10_restore 52 = .ok (.invokevirtual 348, 3) := by decide +kernel
theorem dX10_restore_55 : decode cX10_restore 55 = .ok (.aload_n 0, 1) := by decide +kernel
theorem dX10_restore_56 : decode cX10_restore 56 = .ok (.getfield 70, 3) := by decide +kernel
theorem dX10_restore_59 : decode cX10_restore 59 = .ok (.invokevirtual 134, 3) := by decide +kernel
theorem dX10_restore_62 : decode cX10_restore 62 = .ok (.iconst 1, 1) := by decide +kernel
theorem dX10_restore_63 : decode cX10_restore 63 = .ok (.ireturn, 1) := by decide +kernel
theorem JW.p {w : Nat → Bool} {σ : xS} (h : JW w σ) : PV w σ := ⟨h.1.2.2.2.2.1.1, h.1.2.2.2.2.1.2, h.1.2.2.2.2.2.1⟩
theorem JW.g {w : Nat → Bool} {σ : xS} (h : JW w σ) : JG (xsel (g13 2) σ) := h.1.2.1
theorem JW.im {w : Nat → Bool} {σ : xS} (h : JW w σ) : ∀ k : Nat, k < 2 → w (9 + k) = true → JG (xsel (g13 (151 + 13 * k)) σ) := h.1.2.2.2.2.2.2.1
theorem JW.sn {w : Nat → Bool} {σ : xS} (h : JW w σ) : ∀ k : Nat, k < 2 → w (11 + k) = true → (0 ≤ σ (177 + 2 * k) 1 ∧ σ (177 + 2 * k) 1 ≤ 40) := h.1.2.2.2.2.2.2.2
theorem JW.of {w : Nat → Bool} {σ : xS} (h1 : 0 ≤ σ 0 1 ∧ σ 0 1 ≤ 940) (h2 : JG (xsel (g13 2) σ)) (h3 : 0 ≤ σ 28 1 ∧ σ 28 1 ≤ 40) (h4 : 0 ≤ σ 0 17 ∧ σ 0 17 ≤ 78) (h5 : PV w σ) (h6 : ∀ k : Nat, k < 2 → w (9 + k) = true → JG (xsel (g13 (151 + 13 * k)) σ)) (h7 : ∀ k : Nat, k < 2 → w (11 + k) = true → (0 ≤ σ (177 + 2 * k) 1 ∧ σ (177 + 2 * k) 1 ≤ 40)) (h8 : ∀ k : Nat, k < 2 → w (9 + k) = w (11 + k)) : JW w σ := ⟨⟨h1, h2, h3, h4, ⟨h5.1, h5.2.1⟩, h5.2.2, h6, h7⟩, h8⟩
/-- what calls leave alone -/
theorem JW.fr {w : Nat → Bool} {σ σ' : xS} (h : JW w σ) (hf : ∀ t, 47 ≤ t → t < 181 → σ' t = σ t) (h1 : 0 ≤ σ' 0 1 ∧ σ' 0 1 ≤ 940) (h2 : JG (xsel (g13 2) σ')) (h3 : 0 ≤ σ' 28 1 ∧ σ' 28 1 ≤ 40) (h4 : 0 ≤ σ' 0 17 ∧ σ' 0 17 ≤ 78) (h5 : (0 ≤ σ' 39 1 ∧ σ' 39 1 ≤ 7) ∧ (0 ≤ σ' 39 2 ∧ σ' 39 2 ≤ 8)) : JW w σ' :=
  JW.of h1 h2 h3 h4 ⟨h5.1, h5.2, fun i hi hw => jg_sel (h.p.2.2 i hi hw) (fun k hk => hf _ (by omega) (by omega))⟩ (fun k hk hw => jg_sel (h.im k hk hw) (fun j hj => hf _ (by omega) (by omega))) (fun k hk hw => by rw [hf _ (by omega) (by omega)]; exact h.sn k hk hw) h.2
theorem JW.w {w w' : Nat → Bool} {σ : xS} (h : JW w σ) (hw : ∀ c, c < 13 → w' c = w c) : JW w' σ :=
  JW.of h.1.1 h.g h.1.2.2.1 h.1.2.2.2.1 ⟨h.p.1, h.p.2.1, fun i hi h9 => h.p.2.2 i hi (by rw [← hw _ (by omega)]; exact h9)⟩ (fun k hk h9 => h.im k hk (by rw [← hw _ (by omega)]; exact h9)) (fun k hk h9 => h.sn k hk (by rw [← hw _ (by omega)]; exact h9)) (fun k hk => by rw [hw _ (by omega), hw _ (by omega)]; exact h.2 k hk)
def imgR (w : Nat → Bool) (k r : Int) (w' : Nat → Bool) : Prop := ((0 ≤ k ∧ k < 2) ∧ r = 1 ∧ ∀ c, w' c = if c = 9 + k.toNat ∨ c = 11 + k.toNat then true else w c) ∨ ((k < 0 ∨ 2 ≤ k) ∧ r = 0 ∧ w' = w)
def KT (σ σ' : xS) : Prop := σ' 1 = σ 1 ∧ σ' 31 = σ 31
theorem KT.rf {σ : xS} : KT σ σ := ⟨rfl, rfl⟩
theorem KT.tr {σ σ1 σ2 : xS} (h : KT σ σ1) (k : KT σ1 σ2) : KT σ σ2 := ⟨k.1.trans h.1, k.2.trans h.2⟩
theorem kt_fr {ts js : List Nat} {σ σ' : xS} (f : Fr ts js σ σ') (h1 : 1 ∉ ts := by decide) (h31 : 31 ∉ ts := by decide) : KT σ σ' := ⟨f.1 1 (by decide) h1, f.1 31 (by decide) h31⟩
def imageE : vE := fun w as σ Q => ∃ k : Int, as = [xvr 0, xvi k] ∧ JW w σ ∧ ∀ (r : Int) w' σ', JW w' σ' → σ' 0 = σ 0 ∧ KT σ σ' → imgR w k r w' → Q (some (xvi r)) w' σ'
def restR (w : Nat → Bool) (k r : Int) : Prop := r = if (0 ≤ k ∧ k < 2) ∧ w (9 + k.toNat) = true then 1 else 0
def restoreE : vE := fun w as σ Q => ∃ k : Int, as = [xvr 0, xvi k] ∧ JW w σ ∧ ∀ (r : Int) σ', JW w σ' → σ' 0 = σ 0 ∧ KT σ σ' → restR w k r → Q (some (xvi r)) w σ'
theorem frJW {w : Nat → Bool} {σ σ1 : xS} (h : JW w σ) (f : Fr [] [] σ σ1) : JW w σ1 := by
  have e : σ1 = σ := funext fun t => fr0 f (by simp)
  rw [e]; exact h
section XP
variable {p : Program} {l : Launch} {e : Env} {R : Room} {s : State} {m : MethodId} {args : Array Value} {below : List Frame} {meth : Method} {c : Code}
variable {d : Nat} {D : va_G} {yv : Nat → ClassId} {a : Nat → Nat} {ρ : Nat → Nat → Option Nat} {A : Nat → Prop} {kz : Nat × Nat} {σ : xS}
set_option maxHeartbeats 4000000 in
set_option maxRecDepth 100000 in
theorem vImage55 {w0 w : Nat → Bool} {a0 : Nat → Nat} {K : Option xV → (Nat → Bool) → xS → Prop} {mc ms kn : Nat} (hC : XC p R s m args meth c D yv A RX10 cX10_image 2 d (some .boolean)) (hd : 3 ≤ d) (hkq : kz.1 ≤ mc ∧ kz.2 ≤ ms) (hk1 : kz.1 ≤ R.cells) (hk2 : kz.2 ≤ R.slots) (hkn : kn < 2) (hw9 : w (9 + kn) = true) (hw11 : w (11 + kn) = true) (hLK : LK a ρ w) (hag : ∀ t, (vsh w0 t).isSome = true → a t = a0 t) (hJ : JG (xsel (g13 2) σ))
    (hK : ∀ σ', (∀ t, t ∉ g13 (151 + 13 * kn) → t ∉ g2 (177 + 2 * kn) → σ' t = σ t) → JG (xsel (g13 (151 + 13 * kn)) σ') → σ' (177 + 2 * kn) 1 = σ 28 1 → K (some (xvi 1)) w σ') : XA kz p l e R s m args below meth c D yv a ρ 194 (vsh w) A 2 (MQ below (vQ D yv a0 w0 A K) args s mc ms A) 55 [xvr 0, xvi (kn : Int)] [] σ := by
  have hcp := (cpI kn hkn).1
  have hcn := (cpS kn hkn).1
  have hbt : blkV (151 + 13 * kn) = 0 ∨ w (blkV (151 + 13 * kn)) = true := Or.inr (by rw [bk2 hkn]; exact hw9)
  have hbn : blkV (177 + 2 * kn) = 0 ∨ w (blkV (177 + 2 * kn)) = true := Or.inr (by rw [bk3 hkn]; exact hw11)
  refine xs_aload hC (i := 0) (x := 0) dX10_image_55 rfl ?_
  refine xs_get hC (vfi w) (foX10 74 10 11 rfl) (cd := 45) (v := xvr 41) (sh0 w) rfl rfl (fun _ => trivial) dX10_image_56 ?_
  refine xs_iload hC (i := 1) (x := (kn : Int)) dX10_image_59 rfl ?_
  refine xs_aaload hC (vfi w) (k := 4) (v := xvr (151 + 13 * kn)) (Or.inl rfl) (sh41 w) ⟨by omega, by omega⟩ ⟨by omega, by omega⟩ (by rw [show ((kn : Int)).toNat = kn by omega, hLK.2.1 kn hkn, if_pos hw9]; rfl) trivial dX10_image_60 ?_
  refine xs_aload hC (i := 0) (x := 0) dX10_image_61 rfl ?_
  refine xs_get hC (vfi w) (foX10 23 10 3 rfl) (cd := 6) (v := xvr 2) (sh0 w) rfl rfl (fun _ => trivial) dX10_image_62 ?_
  refine xs_ck (v := true) (i := 127) (n := 2) (as := [xvr (151 + 13 * kn), xvr 2]) (rest := []) (K := fun r σ' => r = none ∧ (∀ t, t ∉ g13 (151 + 13 * kn) → σ' t = σ t) ∧ JG (xsel (g13 (151 + 13 * kn)) σ')) hC ((vCopyC hcp q_3_87 hbt (Or.inl rfl)).up hd) hk1 hk2 dX10_image_65 (vCopyE hcp hbt hJ (fun σ' h1 h2 => ⟨rfl, h1, h2⟩)) rfl (by decide) (fun r σ1 hk => ?_)
  obtain ⟨rfl, h1, h2⟩ := hk
  refine xs_aload hC (i := 0) (x := 0) dX10_image_68 rfl ?_
  refine xs_get hC (vfi w) (foX10 78 10 12 rfl) (cd := 46) (v := xvr 42) (sh0 w) rfl rfl (fun _ => trivial) dX10_image_69 ?_
  refine xs_iload hC (i := 1) (x := (kn : Int)) dX10_image_72 rfl ?_
  refine xs_aaload hC (vfi w) (k := 5) (v := xvr (177 + 2 * kn)) (Or.inr rfl) (sh42 w) ⟨by omega, by omega⟩ ⟨by omega, by omega⟩ (by rw [show ((kn : Int)).toNat = kn by omega, hLK.2.2.1 kn hkn, if_pos hw11]; rfl) trivial dX10_image_73 ?_
  refine xs_aload hC (i := 0) (x := 0) dX10_image_74 rfl ?_
  refine xs_get hC (vfi w) (foX10 33 10 5 rfl) (cd := 32) (v := xvr 28) (sh0 w) rfl rfl (fun _ => trivial) dX10_image_75 ?_
  refine xs_ck (v := true) (i := 348) (n := 2) (as := [xvr (177 + 2 * kn), xvr 28]) (rest := []) (K := fun r σ' => r = none ∧ (∀ t, t ∉ g2 (177 + 2 * kn) → σ' t = σ1 t) ∧ σ' (177 + 2 * kn) 1 = σ1 28 1) hC ((vCopyNC hcn hbn (Or.inl rfl)).up (by omega)) hk1 hk2 dX10_image_78 (vCopyNE hcn hbn (fun σ' h1 h2 => ⟨rfl, h1, h2⟩)) rfl (by decide) (fun r σ2 hk => ?_)
  obtain ⟨rfl, h3, h4⟩ := hk
  have hne : ∀ j, j < 13 → 151 + 13 * kn + j ∉ g2 (177 + 2 * kn) := fun j hj hm => by obtain ⟨k3, hk3, hm⟩ := g2_mem hm; omega
  refine vTE (C := kX10_image_d w) (w := w) (Z := fun _ _ _ => False) hkq hC (zX10_image_d w) (fun v i n E he => (hX10_image_d w l D yv v i n E he).up (by omega)) hk1 hk2 rfl hLK hag (pX10_image_d (fun r σ3 f hr => ⟨(fun _ h => by cases h), ?_⟩)) (fun _ _ _ h => h.elim)
  subst hr
  have e3 : σ3 = σ2 := funext fun t => fr0 f (by simp)
  subst e3
  exact hK _ (fun t h5 h6 => (h3 t h6).trans (h1 t h5)) (jg_sel h2 (fun j hj => h3 _ (hne j hj))) (h4.trans (congrFun (h1 28 (fun hm => by obtain ⟨k3, hk3, hm⟩ := g13_mem hm; omega)) 1))
end XP
theorem img_w {w : Nat → Bool} {kn : Nat} (h9 : w (9 + kn) = true) (h11 : w (11 + kn) = true) (c : Nat) : w c = if c = 9 + kn ∨ c = 11 + kn then true else w c := by
  split
  · rename_i h
    rcases h with rfl | rfl <;> assumption
  · rfl
set_option maxHeartbeats 4000000 in
set_option maxRecDepth 100000 in
theorem mvX10_image (l : Launch) (D : va_G) (yv : Nat → ClassId) : vMt l D yv yX10_image cX10_image 2 (some .boolean) 3 (fun _ => 15) (fun _ => 373) imageE := by
  intro a ρ w sz as σ Q hE hLK hσ has
  obtain ⟨k, rfl, hJ, hQ⟩ := hE
  refine vEnter (N := 194) (sh := vsh w) (by decide +kernel) (Nat.le_of_ble_eq_true rfl) hσ has (fun p e s m below meth c hsz hXX hC => ?_)
  generalize va_A (xws a yv ρ 194 (vsh w) σ) sz = A at hC ⊢
  show XA (0, 0) p l e (vroom 3 15 373) s m _ below meth c D yv a ρ 194 (vsh w) A 2 _ 0 [xvr 0, xvi k] [] σ
  refine vTE (C := kX10_image_a w) (w := w) (w0 := w) (a0 := a) (mc := 15) (ms := 373) (Z := fun c L σ1 => (0 ≤ k ∧ k < 2) ∧ c = 11 ∧ L = [xvr 0, xvi k] ∧ σ = σ1) ⟨(Nat.le_of_ble_eq_true rfl), (Nat.le_of_ble_eq_true rfl)⟩ hC (zX10_image_a w) (fun v i n E he => (hX10_image_a w l D yv v i n E he).up (Nat.le_of_ble_eq_true rfl)) (Nat.le_of_ble_eq_true rfl) (Nat.le_of_ble_eq_true rfl) rfl hLK (fun _ _ => rfl) (pX10_image_a (fun r σ1 f hr => ⟨(fun _ h => by cases h), by obtain ⟨rfl, hr⟩ := hr; exact hQ 0 w σ1 (frJW hJ f) ⟨fr0 f (by simp), kt_fr f⟩ (Or.inr ⟨hr, rfl, rfl⟩)⟩) (fun h1 => ⟨h1, rfl, rfl, rfl⟩)) ?_
  rintro _ _ _ ⟨hk, rfl, rfl, rfl⟩
  obtain ⟨kn, hkn, rfl⟩ : ∃ kn : Nat, kn < 2 ∧ k = kn := ⟨k.toNat, by omega, by omega⟩
  have htn : ((kn : Int)).toNat = kn := by omega
  have hfin : ∀ (w1 : Nat → Bool) (σ1 σ2 : xS), (∀ c, w1 c = if c = 9 + kn ∨ c = 11 + kn then true else w c) → (∀ t, blkV t ≠ 9 + kn → blkV t ≠ 11 + kn → σ1 t = σ t) → (∀ t, t ∉ g13 (151 + 13 * kn) → t ∉ g2 (177 + 2 * kn) → σ2 t = σ1 t) → JG (xsel (g13 (151 + 13 * kn)) σ2) → σ2 (177 + 2 * kn) 1 = σ1 28 1 → Q (some (xvi 1)) w1 σ2 := by
    intro w1 σ1 σ2 h1 h2 h3 h4 h5
    have hlow : ∀ t, t < 151 → σ2 t = σ t := by
      intro t ht
      have hb : blkV t < 9 := by
        unfold blkV
        split
        · omega
        · first | omega | (rw [if_pos ht]; omega)
      rw [h3 t (fun hm => by obtain ⟨k3, hk3, hm⟩ := g13_mem hm; omega) (fun hm => by obtain ⟨k3, hk3, hm⟩ := g2_mem hm; omega), h2 t (by omega) (by omega)]
    have hg : ∀ k2, k2 < 2 → k2 ≠ kn → ∀ j, j < 13 → σ2 (151 + 13 * k2 + j) = σ (151 + 13 * k2 + j) := by
      intro k2 hk2 hne j hj
      have hb : blkV (151 + 13 * k2 + j) = 9 + k2 := by rw [((cpB_e (cpI k2 hk2).1).2.2.2 j hj).2.1, bk2 hk2]
      rw [h3 _ (fun hm => by obtain ⟨k3, hk3, hm⟩ := g13_mem hm; omega) (fun hm => by obtain ⟨k3, hk3, hm⟩ := g2_mem hm; omega), h2 _ (by rw [hb]; omega) (by rw [hb]; omega)]
    have hs : ∀ k2, k2 < 2 → k2 ≠ kn → σ2 (177 + 2 * k2) = σ (177 + 2 * k2) := by
      intro k2 hk2 hne
      have hb := bk3 hk2
      rw [h3 _ (fun hm => by obtain ⟨k3, hk3, hm⟩ := g13_mem hm; omega) (fun hm => by obtain ⟨k3, hk3, hm⟩ := g2_mem hm; omega), h2 _ (by rw [hb]; omega) (by rw [hb]; omega)]
    have hw1 : ∀ c, c ≠ 9 + kn → c ≠ 11 + kn → w1 c = w c := fun c h6 h7 => by rw [h1, if_neg (by omega)]
    have h28 : σ1 28 = σ 28 := h2 28 (by show 0 ≠ 9 + kn; omega) (by show 0 ≠ 11 + kn; omega)
    refine hQ 1 w1 σ2 (JW.of (by rw [hlow 0 (by omega)]; exact hJ.1.1) (jg_sel hJ.g (fun j hj => hlow _ (by omega))) (by rw [hlow 28 (by omega)]; exact hJ.1.2.2.1) (by rw [hlow 0 (by omega)]; exact hJ.1.2.2.2.1) ⟨by rw [hlow 39 (by omega)]; exact hJ.p.1, by rw [hlow 39 (by omega)]; exact hJ.p.2.1, fun i hi hw => jg_sel (hJ.p.2.2 i hi (by rw [← hw1 _ (by omega) (by omega)]; exact hw)) (fun j hj => hlow _ (by omega))⟩ (fun k2 hk2 hw => ?_) (fun k2 hk2 hw => ?_) (fun k2 hk2 => ?_)) ⟨hlow 0 (by omega), hlow 1 (by omega), hlow 31 (by omega)⟩ (Or.inl ⟨hk, rfl, by rw [htn]; exact h1⟩)
    · by_cases he : k2 = kn
      · rw [he]; exact h4
      · exact jg_sel (hJ.im k2 hk2 (by rw [← hw1 _ (by omega) (by omega)]; exact hw)) (hg k2 hk2 he)
    · by_cases he : k2 = kn
      · rw [he, h5, h28]; exact hJ.1.2.2.1
      · rw [hs k2 hk2 he]; exact hJ.sn k2 hk2 (by rw [← hw1 _ (by omega) (by omega)]; exact hw)
    · by_cases he : k2 = kn
      · rw [h1, h1, if_pos (by omega), if_pos (by omega)]
      · rw [hw1 _ (by omega) (by omega), hw1 _ (by omega) (by omega)]; exact hJ.2 k2 hk2
  refine xs_aload hC (i := 0) (x := 0) dX10_image_11 rfl ?_
  refine xs_get hC (vfi w) (foX10 74 10 11 rfl) (cd := 45) (v := xvr 41) (sh0 w) rfl rfl (fun _ => trivial) dX10_image_12 ?_
  refine xs_iload hC (i := 1) (x := (kn : Int)) dX10_image_15 rfl ?_
  cases hw9 : w (9 + kn) with
  | true =>
    have hw11 : w (11 + kn) = true := by rw [← hJ.2 kn hkn]; exact hw9
    refine xs_aaload hC (vfi w) (k := 4) (v := xvr (151 + 13 * kn)) (Or.inl rfl) (sh41 w) ⟨by omega, by omega⟩ ⟨by omega, by omega⟩ (by rw [show ((kn : Int)).toNat = kn by omega, hLK.2.1 kn hkn, if_pos hw9]; rfl) trivial dX10_image_16 ?_
    refine xs_ifnull hC dX10_image_17 ?_
    refine xs_aload hC (i := 0) (x := 0) dX10_image_20 rfl ?_
    refine xs_get hC (vfi w) (foX10 78 10 12 rfl) (cd := 46) (v := xvr 42) (sh0 w) rfl rfl (fun _ => trivial) dX10_image_21 ?_
    refine xs_iload hC (i := 1) (x := (kn : Int)) dX10_image_24 rfl ?_
    refine xs_aaload hC (vfi w) (k := 5) (v := xvr (177 + 2 * kn)) (Or.inr rfl) (sh42 w) ⟨by omega, by omega⟩ ⟨by omega, by omega⟩ (by rw [show ((kn : Int)).toNat = kn by omega, hLK.2.2.1 kn hkn, if_pos hw11]; rfl) trivial dX10_image_25 ?_
    refine xs_ifnonnull hC (tgt := 55) dX10_image_26 rfl ?_
    exact vImage55 hC (Nat.le_of_ble_eq_true rfl) ⟨(Nat.le_of_ble_eq_true rfl), (Nat.le_of_ble_eq_true rfl)⟩ (Nat.le_of_ble_eq_true rfl) (Nat.le_of_ble_eq_true rfl) hkn hw9 hw11 hLK (fun _ _ => rfl) hJ.g (fun σ2 h3 h4 h5 => hfin w σ σ2 (fun c => img_w hw9 hw11 c) (fun _ _ _ => rfl) h3 h4 h5)
  | false =>
    have hw11 : w (11 + kn) = false := by rw [← hJ.2 kn hkn]; exact hw9
    refine xs_aaload hC (vfi w) (k := 4) (v := xvu) (Or.inl rfl) (sh41 w) ⟨by omega, by omega⟩ ⟨by omega, by omega⟩ (by rw [htn, hLK.2.1 kn hkn, if_neg (by rw [hw9]; decide)]; rfl) trivial dX10_image_16 ?_
    refine xs_ifnullN hC (tgt := 29) dX10_image_17 rfl ?_
    refine xs_aload hC (i := 0) (x := 0) dX10_image_29 rfl ?_
    refine xs_get hC (vfi w) (foX10 74 10 11 rfl) (cd := 45) (v := xvr 41) (sh0 w) rfl rfl (fun _ => trivial) dX10_image_30 ?_
    refine xs_iload hC (i := 1) (x := (kn : Int)) dX10_image_33 rfl ?_
    refine vs_new (mc := 12) (ms := 313) hC hXX (vBi hkn) hw9 q_1_32 q_1_33 q_1_2 (C := RX2) (T := TX2) (NN := 18) (ci := 2) (fs0 := fsX2) (ty0 := tyX2) rfl inGX2 tyX2_ok px_fsX2v dX10_image_34 dX10_image_37 (Nat.le_of_ble_eq_true rfl) (Nat.le_of_ble_eq_true rfl) (Nat.le_of_ble_eq_true rfl)
      (fun H1 locs1 ls g2 rest h1 h2 h3 => va_runI (As := []) (n := 0) ⟨hC.1, hC.2.1, hC.2.2.1, hC.2.2.2.1, hC.2.2.2.2.1⟩ (ctX2 l D yv H1.size g2) (cwI 0 hC.2.2.2.2.1 (px_gI q_1_36) rfl rfl rfl (hC.2.2.2.2.1 _ q_1_2) (hC.2.2.2.2.1 _ q_1_34) (hC.2.2.2.2.1 _ q_1_35) rfl (by decide +kernel) ⟨(Nat.le_of_ble_eq_true rfl), (Nat.le_of_ble_eq_true rfl)⟩) h2 rfl rfl h1 rfl (by simpa using h3) dX10_image_38 ⟨(Nat.le_of_ble_eq_true rfl), (Nat.le_of_ble_eq_true rfl)⟩) (fun u hu => by
        simp only [List.mem_cons, List.not_mem_nil, or_false] at hu
        rcases hu with hu | hu
        · cases hu; rw [sh0]; rfl
        · cases hu) (fun u hu => by
        simp only [List.mem_cons, List.not_mem_nil, or_false] at hu
        rcases hu with hu | hu
        · cases hu
        · cases hu; rw [sh41]; rfl) (fun a1 ρ1 σ1 hout => ?_)
    have hout2 : ∀ t, blkV t ≠ 9 + kn → a1 t = a t ∧ ρ1 t = ρ t ∧ σ1 t = σ t := fun t ht => hout t (vB_out (vBi hkn) ht)
    obtain ⟨codes, hcd⟩ := vGame (w := wOn w (9 + kn)) (cpI kn hkn).1 (Or.inr (by rw [bk2 hkn]; exact if_pos rfl))
    refine vs_aastore (k := 4) (n := 2) (ci := 2) hC (Or.inl rfl) (sh41 _) hcd rfl rfl ⟨by omega, by omega⟩ ⟨by omega, by omega⟩ dX10_image_41 ?_
    rw [htn]
    have hLK1 := LK_on (b := 9 + kn) (x0 := 41) (j0 := kn) (tb := 151 + 13 * kn) hLK (fun t ht => ⟨(hout2 t ht).1, (hout2 t ht).2.1⟩) (Or.inr (Or.inl ⟨kn, hkn, rfl, rfl, rfl, rfl⟩))
    generalize hρ2 : (fun x j => if x = 41 ∧ j = kn then some (a1 (151 + 13 * kn)) else ρ1 x j) = ρ2 at hLK1
    show XA _ p l e _ s m _ below meth c D yv a1 (fun x j => if x = 41 ∧ j = kn then some (a1 (151 + 13 * kn)) else ρ1 x j) 194 (vsh (wOn w (9 + kn))) A 2 _ 42 [xvr 0, xvi (kn : Int)] [] σ1
    rw [hρ2]
    refine xs_aload hC (i := 0) (x := 0) dX10_image_42 rfl ?_
    refine xs_get hC (vfi (wOn w (9 + kn))) (foX10 78 10 12 rfl) (cd := 46) (v := xvr 42) (sh0 (wOn w (9 + kn))) rfl rfl (fun _ => trivial) dX10_image_43 ?_
    refine xs_iload hC (i := 1) (x := (kn : Int)) dX10_image_46 rfl ?_
    refine vs_new (mc := 1) (ms := 40) hC hXX (vBs hkn) (show wOn w (9 + kn) (11 + kn) = false from by rw [← hw11]; exact if_neg (by omega)) q_1_151 q_1_152 q_1_5 (C := RX7) (T := TX7) (NN := 2) (ci := 7) (fs0 := fsX7) (ty0 := tyX7) rfl inGX7 tyX7_ok px_fsX7v dX10_image_47 dX10_image_50 (Nat.le_of_ble_eq_true rfl) (Nat.le_of_ble_eq_true rfl) (Nat.le_of_ble_eq_true rfl)
      (fun H1 locs1 ls g2 rest h1 h2 h3 => va_runIN (As := []) (n := 0) ⟨hC.1, hC.2.1, hC.2.2.1, hC.2.2.2.1, hC.2.2.2.2.1⟩ (ctX7 l D yv H1.size g2) ⟨va_cnB 0 hC.2.2.2.2.1 (px_gI q_1_155) rfl rfl rfl hXX.1.2.2.2.1 (hC.2.2.2.2.1 _ q_1_5) (by decide +kernel) ⟨(Nat.le_of_ble_eq_true rfl), (Nat.le_of_ble_eq_true rfl)⟩, rfl, (hC.2.2.2.2.1 _ q_1_154)⟩ h2 rfl rfl h1 rfl (by simpa using h3) dX10_image_51 ⟨(Nat.le_of_ble_eq_true rfl), (Nat.le_of_ble_eq_true rfl)⟩) (fun u hu => by
        simp only [List.mem_cons, List.not_mem_nil, or_false] at hu
        rcases hu with hu | hu
        · cases hu; rw [sh0]; rfl
        · cases hu) (fun u hu => by
        simp only [List.mem_cons, List.not_mem_nil, or_false] at hu
        rcases hu with hu | hu
        · cases hu
        · cases hu; rw [sh42]; rfl) (fun a2 ρ3 σ2 hout3 => ?_)
    have hout4 : ∀ t, blkV t ≠ 11 + kn → a2 t = a1 t ∧ ρ3 t = ρ2 t ∧ σ2 t = σ1 t := fun t ht => hout3 t (vB_out (vBs hkn) ht)
    obtain ⟨codes2, hcd2⟩ := vSent (w := wOn (wOn w (9 + kn)) (11 + kn)) (cpS kn hkn).1 (Or.inr (by rw [bk3 hkn]; exact if_pos rfl))
    refine vs_aastore (k := 5) (n := 2) (ci := 7) hC (Or.inr rfl) (sh42 _) hcd2 rfl rfl ⟨by omega, by omega⟩ ⟨by omega, by omega⟩ dX10_image_54 ?_
    rw [htn]
    have hLK2 := LK_on (b := 11 + kn) (x0 := 42) (j0 := kn) (tb := 177 + 2 * kn) hLK1 (fun t ht => ⟨(hout4 t ht).1, (hout4 t ht).2.1⟩) (Or.inr (Or.inr (Or.inl ⟨kn, hkn, rfl, rfl, rfl, rfl⟩)))
    refine vImage55 hC (Nat.le_of_ble_eq_true rfl) ⟨(Nat.le_of_ble_eq_true rfl), (Nat.le_of_ble_eq_true rfl)⟩ (Nat.le_of_ble_eq_true rfl) (Nat.le_of_ble_eq_true rfl) hkn (w := wOn (wOn w (9 + kn)) (11 + kn)) ((if_neg (by omega)).trans (if_pos rfl)) (if_pos rfl) hLK2 (fun t ht => ?_) (jg_sel hJ.g (fun j hj => ?_)) (fun σ3 h3 h4 h5 => hfin _ σ2 σ3 (fun c => ?_) (fun t h6 h7 => ((hout4 t h7).2.2).trans (hout2 t h6).2.2) h3 h4 h5)
    · have h6 := vOn_none (vBi hkn) hw9 ht
      have h7 : (vsh (wOn w (9 + kn)) t).isSome = true := by rw [vOn_out (vBi hkn) t h6]; exact ht
      exact ((hout3 t (vOn_none (vBs hkn) (show wOn w (9 + kn) (11 + kn) = false from by rw [← hw11]; exact if_neg (by omega)) h7)).1).trans (hout t h6).1
    · have hb : blkV (2 + j) = 0 := by unfold blkV; rw [if_pos (by omega)]
      rw [(hout4 (2 + j) (by rw [hb]; omega)).2.2, (hout2 (2 + j) (by rw [hb]; omega)).2.2]
    · unfold wOn
      by_cases hc1 : c = 11 + kn
      · rw [if_pos hc1, if_pos (Or.inr hc1)]
      · by_cases hc2 : c = 9 + kn
        · rw [if_neg hc1, if_pos hc2, if_pos (Or.inl hc2)]
        · rw [if_neg hc1, if_neg hc2, if_neg (by omega)]
set_option maxHeartbeats 4000000 in
set_option maxRecDepth 100000 in
theorem mvX10_restore (l : Launch) (D : va_G) (yv : Nat → ClassId) : vMt l D yv yX10_restore cX10_restore 2 (some .boolean) 3 (fun _ => 0) (fun _ => 0) restoreE := by
  intro a ρ w sz as σ Q hE hLK hσ has
  obtain ⟨k, rfl, hJ, hQ⟩ := hE
  refine vEnter (N := 194) (sh := vsh w) (by decide +kernel) (Nat.le_of_ble_eq_true rfl) hσ has (fun p e s m below meth c hsz hXX hC => ?_)
  generalize va_A (xws a yv ρ 194 (vsh w) σ) sz = A at hC ⊢
  show XA (0, 0) p l e (vroom 3 0 0) s m _ below meth c D yv a ρ 194 (vsh w) A 2 _ 0 [xvr 0, xvi k] [] σ
  refine vTE (C := kX10_restore_a w) (w := w) (w0 := w) (a0 := a) (mc := 0) (ms := 0) (Z := fun c L σ1 => (0 ≤ k ∧ k < 2) ∧ c = 9 ∧ L = [xvr 0, xvi k] ∧ σ = σ1) ⟨(Nat.le_of_ble_eq_true rfl), (Nat.le_of_ble_eq_true rfl)⟩ hC (zX10_restore_a w) (fun v i n E he => (hX10_restore_a w l D yv v i n E he).up (Nat.le_of_ble_eq_true rfl)) (Nat.le_of_ble_eq_true rfl) (Nat.le_of_ble_eq_true rfl) rfl hLK (fun _ _ => rfl) (pX10_restore_a (fun r σ1 f hr => ⟨(fun _ h => by cases h), by obtain ⟨rfl, hr⟩ := hr; exact hQ 0 σ1 (frJW hJ f) ⟨fr0 f (by simp), kt_fr f⟩ (by unfold restR; rw [if_neg (by omega)])⟩) (fun h1 => ⟨h1, rfl, rfl, rfl⟩)) ?_
  rintro _ _ _ ⟨hk, rfl, rfl, rfl⟩
  obtain ⟨kn, hkn, rfl⟩ : ∃ kn : Nat, kn < 2 ∧ k = kn := ⟨k.toNat, by omega, by omega⟩
  have htn : ((kn : Int)).toNat = kn := by omega
  refine xs_aload hC (i := 0) (x := 0) dX10_restore_9 rfl ?_
  refine xs_get hC (vfi w) (foX10 74 10 11 rfl) (cd := 45) (v := xvr 41) (sh0 w) rfl rfl (fun _ => trivial) dX10_restore_10 ?_
  refine xs_iload hC (i := 1) (x := (kn : Int)) dX10_restore_13 rfl ?_
  cases hw9 : w (9 + kn) with
  | false =>
    refine xs_aaload hC (vfi w) (k := 4) (v := xvu) (Or.inl rfl) (sh41 w) ⟨by omega, by omega⟩ ⟨by omega, by omega⟩ (by rw [htn, hLK.2.1 kn hkn, if_neg (by rw [hw9]; decide)]; rfl) trivial dX10_restore_14 ?_
    refine xs_ifnullN hC (tgt := 27) dX10_restore_15 rfl ?_
    exact vTE (C := kX10_restore_c w) (w := w) (Z := fun _ _ _ => False) ⟨(Nat.le_of_ble_eq_true rfl), (Nat.le_of_ble_eq_true rfl)⟩ hC (zX10_restore_c w) (fun v i n E he => (hX10_restore_c w l D yv v i n E he).up (Nat.le_of_ble_eq_true rfl)) (Nat.le_of_ble_eq_true rfl) (Nat.le_of_ble_eq_true rfl) rfl hLK (fun _ _ => rfl) (pX10_restore_c (fun r σ1 f hr => ⟨(fun _ h => by cases h), by subst hr; exact hQ 0 σ1 (frJW hJ f) ⟨fr0 f (by simp), kt_fr f⟩ (by unfold restR; rw [htn, hw9, if_neg (fun h => Bool.noConfusion h.2)])⟩)) (fun _ _ _ h => h.elim)
  | true =>
    have hw11 : w (11 + kn) = true := by rw [← hJ.2 kn hkn]; exact hw9
    refine xs_aaload hC (vfi w) (k := 4) (v := xvr (151 + 13 * kn)) (Or.inl rfl) (sh41 w) ⟨by omega, by omega⟩ ⟨by omega, by omega⟩ (by rw [htn, hLK.2.1 kn hkn, if_pos hw9]; rfl) trivial dX10_restore_14 ?_
    refine xs_ifnull hC dX10_restore_15 ?_
    refine xs_aload hC (i := 0) (x := 0) dX10_restore_18 rfl ?_
    refine xs_get hC (vfi w) (foX10 78 10 12 rfl) (cd := 46) (v := xvr 42) (sh0 w) rfl rfl (fun _ => trivial) dX10_restore_19 ?_
    refine xs_iload hC (i := 1) (x := (kn : Int)) dX10_restore_22 rfl ?_
    refine xs_aaload hC (vfi w) (k := 5) (v := xvr (177 + 2 * kn)) (Or.inr rfl) (sh42 w) ⟨by omega, by omega⟩ ⟨by omega, by omega⟩ (by rw [htn, hLK.2.2.1 kn hkn, if_pos hw11]; rfl) trivial dX10_restore_23 ?_
    refine xs_ifnonnull hC (tgt := 29) dX10_restore_24 rfl ?_
    refine xs_aload hC (i := 0) (x := 0) dX10_restore_29 rfl ?_
    refine xs_get hC (vfi w) (foX10 23 10 3 rfl) (cd := 6) (v := xvr 2) (sh0 w) rfl rfl (fun _ => trivial) dX10_restore_30 ?_
    refine xs_aload hC (i := 0) (x := 0) dX10_restore_33 rfl ?_
    refine xs_get hC (vfi w) (foX10 74 10 11 rfl) (cd := 45) (v := xvr 41) (sh0 w) rfl rfl (fun _ => trivial) dX10_restore_34 ?_
    refine xs_iload hC (i := 1) (x := (kn : Int)) dX10_restore_37 rfl ?_
    refine xs_aaload hC (vfi w) (k := 4) (v := xvr (151 + 13 * kn)) (Or.inl rfl) (sh41 w) ⟨by omega, by omega⟩ ⟨by omega, by omega⟩ (by rw [htn, hLK.2.1 kn hkn, if_pos hw9]; rfl) trivial dX10_restore_38 ?_
    have hcp := (cpI kn hkn).2
    have hcn := (cpS kn hkn).2
    have hbt : blkV (151 + 13 * kn) = 0 ∨ w (blkV (151 + 13 * kn)) = true := Or.inr (by rw [bk2 hkn]; exact hw9)
    have hbn : blkV (177 + 2 * kn) = 0 ∨ w (blkV (177 + 2 * kn)) = true := Or.inr (by rw [bk3 hkn]; exact hw11)
    refine xs_ck (v := true) (i := 127) (n := 2) (as := [xvr 2, xvr (151 + 13 * kn)]) (rest := []) (K := fun r σ' => r = none ∧ (∀ t, t ∉ g13 2 → σ' t = σ t) ∧ JG (xsel (g13 2) σ')) hC (vCopyC hcp q_3_87 (Or.inl rfl) hbt) (Nat.le_of_ble_eq_true rfl) (Nat.le_of_ble_eq_true rfl) dX10_restore_39 (vCopyE hcp (Or.inl rfl) (hJ.im kn hkn hw9) (fun σ' h1 h2 => ⟨rfl, h1, h2⟩)) rfl (by decide) (fun r σ1 hk => ?_)
    obtain ⟨rfl, h1, h2⟩ := hk
    refine xs_aload hC (i := 0) (x := 0) dX10_restore_42 rfl ?_
    refine xs_get hC (vfi w) (foX10 33 10 5 rfl) (cd := 32) (v := xvr 28) (sh0 w) rfl rfl (fun _ => trivial) dX10_restore_43 ?_
    refine xs_aload hC (i := 0) (x := 0) dX10_restore_46 rfl ?_
    refine xs_get hC (vfi w) (foX10 78 10 12 rfl) (cd := 46) (v := xvr 42) (sh0 w) rfl rfl (fun _ => trivial) dX10_restore_47 ?_
    refine xs_iload hC (i := 1) (x := (kn : Int)) dX10_restore_50 rfl ?_
    refine xs_aaload hC (vfi w) (k := 5) (v := xvr (177 + 2 * kn)) (Or.inr rfl) (sh42 w) ⟨by omega, by omega⟩ ⟨by omega, by omega⟩ (by rw [htn, hLK.2.2.1 kn hkn, if_pos hw11]; rfl) trivial dX10_restore_51 ?_
    refine xs_ck (v := true) (i := 348) (n := 2) (as := [xvr 28, xvr (177 + 2 * kn)]) (rest := []) (K := fun r σ' => r = none ∧ (∀ t, t ∉ g2 28 → σ' t = σ1 t) ∧ σ' 28 1 = σ1 (177 + 2 * kn) 1) hC ((vCopyNC hcn (Or.inl rfl) hbn).up (Nat.le_of_ble_eq_true rfl)) (Nat.le_of_ble_eq_true rfl) (Nat.le_of_ble_eq_true rfl) dX10_restore_52 (vCopyNE hcn (Or.inl rfl) (fun σ' h1 h2 => ⟨rfl, h1, h2⟩)) rfl (by decide) (fun r σ2 hk => ?_)
    obtain ⟨rfl, h3, h4⟩ := hk
    have h12 : ∀ t, t ∉ g13 2 → t ∉ g2 28 → σ2 t = σ t := fun t h5 h6 => (h3 t h6).trans (h1 t h5)
    refine vTE (C := kX10_restore_d w) (w := w) (Z := fun _ _ _ => False) ⟨(Nat.le_of_ble_eq_true rfl), (Nat.le_of_ble_eq_true rfl)⟩ hC (zX10_restore_d w) (fun v i n E he => (hX10_restore_d w l D yv v i n E he).up (Nat.le_of_ble_eq_true rfl)) (Nat.le_of_ble_eq_true rfl) (Nat.le_of_ble_eq_true rfl) rfl hLK (fun _ _ => rfl) (pX10_restore_d (by rw [h12 39 (by decide) (by decide)]; exact hJ.p.1) (fun r σ3 f hr => ⟨(fun _ h => by cases h), ?_⟩)) (fun _ _ _ h => h.elim)
    obtain ⟨rfl, p1, p2⟩ := hr
    have hu : ∀ t, t ≠ 39 → σ3 t = σ2 t := fun t ht => fr0 f (by simp [ht])
    have h0 : σ3 0 = σ 0 := (hu 0 (by omega)).trans (h12 0 (by decide) (by decide))
    refine hQ 1 σ3 (JW.fr hJ (fun t h5 h6 => (hu t (by omega)).trans (h12 t (fun hm => by obtain ⟨k3, hk3, hm⟩ := g13_mem hm; omega) (fun hm => by obtain ⟨k3, hk3, hm⟩ := g2_mem hm; omega))) (by rw [h0]; exact hJ.1.1) (jg_sel h2 (fun j hj => (hu _ (by omega)).trans (h3 _ (fun hm => by obtain ⟨k3, hk3, hm⟩ := g2_mem hm; omega)))) (by rw [hu 28 (by omega), h4, h1 _ (fun hm => by obtain ⟨k3, hk3, hm⟩ := g13_mem hm; omega)]; exact hJ.sn kn hkn hw11) (by rw [h0]; exact hJ.1.2.2.2.1) ⟨p1, by omega⟩) ⟨h0, (hu 1 (by omega)).trans (h12 1 (by decide) (by decide)), (hu 31 (by omega)).trans (h12 31 (by decide) (by decide))⟩ (by unfold restR; rw [htn, if_pos ⟨hk, hw9⟩])
