/-! A deal of the class. -/
theorem gcf_pcx {h : Nat → Int} {b : Int} {k : Nat} (hb : 0 ≤ b ∧ b ≤ 52) : gcf h 0 b k = pcx h b.toNat k := by
  unfold gcf pcx
  rw [sm_cut (n := b.toNat) (m := 52) (by omega) (fun i h1 h2 => by rw [if_neg (fun z => by have := z.2.1; omega)])]
  exact sm_congr (fun i hi => by
    by_cases d : h i = (k : Int)
    · rw [if_pos d, if_pos ⟨by omega, by omega, d⟩]
    · rw [if_neg d, if_neg (fun z => d z.2.2)])
theorem gcf_swap {h h' : Nat → Int} {b : Int} {i j k : Nat} (hb : 0 ≤ b ∧ b ≤ 52) (hi : (i : Int) < b) (hj : (j : Int) < b) (e1 : h' j = h i) (e2 : i ≠ j → h' i = h j) (s : ∀ q, q ≠ i → q ≠ j → h' q = h q) : gcf h' 0 b k = gcf h 0 b k := by
  rw [gcf_pcx hb, gcf_pcx hb]
  exact pcx_swap (by omega) (by omega) e1 e2 s
theorem gsf_z {hs h : Nat → Int} {a b : Int} {k : Nat} (hz : ∀ i : Nat, i < 78 → hs i = 0) (hk : k < 13) : gsf hs h a b k = gcf h a b k := by
  unfold gsf
  rw [sm_z (n := 6) (g := fun p => hs (13 * p + k)) (fun p hp => hz _ (by omega))]
  omega
