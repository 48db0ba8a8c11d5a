theorem s_leaderJ {σ : xS}  {Q : Option xV → xS → Prop} (hI : RI σ) (hp1_ : TV (σ 2)) (hQ : ∀ r : Int, ∀ σ' : xS, (RK σ σ') → Fr [] [0] σ σ' → (LDx (σ 2) r (σ 2 1)) → Q (some (xvi r)) σ') : xT kX11_leader [xvr 0] σ Q := by
  refine jkX11_leader _ _ (fun o ς => ∃ r : Int, o = some (xvi r) ∧ (RK σ ς)) (fun o ς => ∃ r : Int, o = some (xvi r) ∧ Fr [] [0] σ ς ∧ ((LDx (σ 2) r (σ 2 1)))) _ (s_leader hI (fun r ς p => ⟨r, rfl, p⟩)) (s_leaderF hI hp1_ (fun r ς f p => ⟨r, rfl, f, p⟩)) (fun o ς h1 h2 => ?_)
  obtain ⟨r, rfl, p0⟩ := h1
  obtain ⟨r2, e2, f1, p1⟩ := h2
  have e3 : r = r2 := by cases e2; rfl
  subst e3
  exact hQ r ς p0 f1 p1
theorem s_gamesJ {σ : xS} {i j n fr : Int} {Q : Option xV → xS → Prop} (hI : RI σ) (hp1_ : TV (σ 2)) (hQ : ∀ r : Int, ∀ σ' : xS, (RK σ σ') → Fr [2, 7, 9, 20, 21] [0, 24, 49, 51] σ σ' → ((GMc (σ 2) i j n ∧ r = gmW (σ 2) i j fr n.toNat ∧ SAMEx σ σ') ∨ (¬ GMc (σ 2) i j n ∧ r = -1 ∧ SAMEx σ σ')) → Q (some (xvi r)) σ') : xT kX11_games [xvr 0, xvi i, xvi j, xvi n, xvi fr] σ Q := by
  refine jkX11_games _ _ (fun o ς => ∃ r : Int, o = some (xvi r) ∧ (RK σ ς)) (fun o ς => ∃ r : Int, o = some (xvi r) ∧ Fr [2, 7, 9, 20, 21] [0, 24, 49, 51] σ ς ∧ (((GMc (σ 2) i j n ∧ r = gmW (σ 2) i j fr n.toNat ∧ SAMEx σ ς) ∨ (¬ GMc (σ 2) i j n ∧ r = -1 ∧ SAMEx σ ς)))) _ (s_games hI (fun r ς p => ⟨r, rfl, p⟩)) (s_gamesF hI hp1_ (fun r ς f p => ⟨r, rfl, f, p⟩)) (fun o ς h1 h2 => ?_)
  obtain ⟨r, rfl, p0⟩ := h1
  obtain ⟨r2, e2, f1, p1⟩ := h2
  have e3 : r = r2 := by cases e2; rfl
  subst e3
  exact hQ r ς p0 f1 p1
theorem s_lengthJ {σ : xS} {i j n fr : Int} {Q : Option xV → xS → Prop} (hI : RI σ) (hp1_ : TV (σ 2)) (hQ : ∀ r : Int, ∀ σ' : xS, (RK σ σ') → Fr [2, 7, 9, 20, 21] [0, 24, 49, 51] σ σ' → ((GMc (σ 2) i j n ∧ r = gmA (σ 2) i j fr n.toNat ∧ SAMEx σ σ') ∨ (¬ GMc (σ 2) i j n ∧ r = -1 ∧ SAMEx σ σ')) → Q (some (xvi r)) σ') : xT kX11_length [xvr 0, xvi i, xvi j, xvi n, xvi fr] σ Q := by
  refine jkX11_length _ _ (fun o ς => ∃ r : Int, o = some (xvi r) ∧ (RK σ ς)) (fun o ς => ∃ r : Int, o = some (xvi r) ∧ Fr [2, 7, 9, 20, 21] [0, 24, 49, 51] σ ς ∧ (((GMc (σ 2) i j n ∧ r = gmA (σ 2) i j fr n.toNat ∧ SAMEx σ ς) ∨ (¬ GMc (σ 2) i j n ∧ r = -1 ∧ SAMEx σ ς)))) _ (s_length hI (fun r ς p => ⟨r, rfl, p⟩)) (s_lengthF hI hp1_ (fun r ς f p => ⟨r, rfl, f, p⟩)) (fun o ς h1 h2 => ?_)
  obtain ⟨r, rfl, p0⟩ := h1
  obtain ⟨r2, e2, f1, p1⟩ := h2
  have e3 : r = r2 := by cases e2; rfl
  subst e3
  exact hQ r ς p0 f1 p1
theorem s_replyJ {σ : xS} {j n fr : Int} {Q : Option xV → xS → Prop} (hI : RI σ) (hp1_ : TV (σ 2)) (hQ : ∀ r : Int, ∀ σ' : xS, (RK σ σ') → Fr [2, 7, 9, 20, 21] [0, 24, 49, 51] σ σ' → ((GMc (σ 2) 0 j n ∧ REPx (σ 2) j n fr r ∧ SAMEx σ σ') ∨ (¬ GMc (σ 2) 0 j n ∧ r = -1 ∧ SAMEx σ σ')) → Q (some (xvi r)) σ') : xT kX11_reply [xvr 0, xvi j, xvi n, xvi fr] σ Q := by
  refine jkX11_reply _ _ (fun o ς => ∃ r : Int, o = some (xvi r) ∧ (RK σ ς)) (fun o ς => ∃ r : Int, o = some (xvi r) ∧ Fr [2, 7, 9, 20, 21] [0, 24, 49, 51] σ ς ∧ (((GMc (σ 2) 0 j n ∧ REPx (σ 2) j n fr r ∧ SAMEx σ ς) ∨ (¬ GMc (σ 2) 0 j n ∧ r = -1 ∧ SAMEx σ ς)))) _ (s_reply hI (fun r ς p => ⟨r, rfl, p⟩)) (s_replyF hI hp1_ (fun r ς f p => ⟨r, rfl, f, p⟩)) (fun o ς h1 h2 => ?_)
  obtain ⟨r, rfl, p0⟩ := h1
  obtain ⟨r2, e2, f1, p1⟩ := h2
  have e3 : r = r2 := by cases e2; rfl
  subst e3
  exact hQ r ς p0 f1 p1
theorem s_handJ {σ : xS} {k kind : Int} {Q : Option xV → xS → Prop} (hI : RI σ) (hp1_ : TV (σ 2)) (hQ : ∀ r : Int, ∀ σ' : xS, (RK σ σ') → Fr [] [0] σ σ' → ((PK (σ 2) k kind ∧ r = HH (σ 2) k.toNat kind.toNat ∧ σ' 0 0 = 0) ∨ (¬ PK (σ 2) k kind ∧ r = 0 ∧ σ' 0 0 = 1)) → Q (some (xvi r)) σ') : xT kX11_hand [xvr 0, xvi k, xvi kind] σ Q := by
  refine jkX11_hand _ _ (fun o ς => ∃ r : Int, o = some (xvi r) ∧ (RK σ ς)) (fun o ς => ∃ r : Int, o = some (xvi r) ∧ Fr [] [0] σ ς ∧ (((PK (σ 2) k kind ∧ r = HH (σ 2) k.toNat kind.toNat ∧ ς 0 0 = 0) ∨ (¬ PK (σ 2) k kind ∧ r = 0 ∧ ς 0 0 = 1)))) _ (s_hand hI (fun r ς p => ⟨r, rfl, p⟩)) (s_handF hI hp1_ (fun r ς f p => ⟨r, rfl, f, p⟩)) (fun o ς h1 h2 => ?_)
  obtain ⟨r, rfl, p0⟩ := h1
  obtain ⟨r2, e2, f1, p1⟩ := h2
  have e3 : r = r2 := by cases e2; rfl
  subst e3
  exact hQ r ς p0 f1 p1
theorem s_askJ {σ : xS} {a b kind lies : Int} {Q : Option xV → xS → Prop} (hI : RI σ) (hp1_ : TV (σ 2)) (hQ : ∀ r : Int, ∀ σ' : xS, (RK σ σ') → Fr [2, 7, 8] [0, 24, 27] σ σ' → ((¬ (ASK (σ 2) a b kind ∧ (0 ≤ lies ∧ lies ≤ 1)) ∧ r = -1 ∧ SAMEx σ σ') ∨ ((ASK (σ 2) a b kind ∧ (0 ≤ lies ∧ lies ≤ 1)) ∧ 1 ≤ whyF (σ 2) a b kind.toNat ∧ r = -2 - whyF (σ 2) a b kind.toNat ∧ SAMEx σ σ') ∨ ((ASK (σ 2) a b kind ∧ (0 ≤ lies ∧ lies ≤ 1)) ∧ whyF (σ 2) a b kind.toNat = 0 ∧ KPT (σ 0 27) (σ' 0 27) (σ 8) (σ' 8) (σ 2) ∧ σ' 2 = askF (σ 2) a.toNat b.toNat kind.toNat lies ∧ r = askR (σ 2) a.toNat b.toNat kind.toNat lies 3 ∧ (σ' 0 24 = 1 ∧ ∀ i : Nat, i < 8 → σ' 7 i = askR (σ 2) a.toNat b.toNat kind.toNat lies i))) → Q (some (xvi r)) σ') : xT kX11_ask [xvr 0, xvi a, xvi b, xvi kind, xvi lies] σ Q := by
  refine jkX11_ask _ _ (fun o ς => ∃ r : Int, o = some (xvi r) ∧ (RK σ ς)) (fun o ς => ∃ r : Int, o = some (xvi r) ∧ Fr [2, 7, 8] [0, 24, 27] σ ς ∧ (((¬ (ASK (σ 2) a b kind ∧ (0 ≤ lies ∧ lies ≤ 1)) ∧ r = -1 ∧ SAMEx σ ς) ∨ ((ASK (σ 2) a b kind ∧ (0 ≤ lies ∧ lies ≤ 1)) ∧ 1 ≤ whyF (σ 2) a b kind.toNat ∧ r = -2 - whyF (σ 2) a b kind.toNat ∧ SAMEx σ ς) ∨ ((ASK (σ 2) a b kind ∧ (0 ≤ lies ∧ lies ≤ 1)) ∧ whyF (σ 2) a b kind.toNat = 0 ∧ KPT (σ 0 27) (ς 0 27) (σ 8) (ς 8) (σ 2) ∧ ς 2 = askF (σ 2) a.toNat b.toNat kind.toNat lies ∧ r = askR (σ 2) a.toNat b.toNat kind.toNat lies 3 ∧ (ς 0 24 = 1 ∧ ∀ i : Nat, i < 8 → ς 7 i = askR (σ 2) a.toNat b.toNat kind.toNat lies i))))) _ (s_ask hI (fun r ς p => ⟨r, rfl, p⟩)) (s_askF hI hp1_ (fun r ς f p => ⟨r, rfl, f, p⟩)) (fun o ς h1 h2 => ?_)
  obtain ⟨r, rfl, p0⟩ := h1
  obtain ⟨r2, e2, f1, p1⟩ := h2
  have e3 : r = r2 := by cases e2; rfl
  subst e3
  exact hQ r ς p0 f1 p1
theorem s_dealJ {σ : xS} {n fr : Int} {Q : Option xV → xS → Prop} (hI : RI σ) (hp1_ : TV (σ 2)) (hQ : ∀ r : Int, ∀ σ' : xS, (RK σ σ') → Fr [2, 8, 21] [0, 27, 49] σ σ' → ((DLc2 (σ 2) n ∧ r = 1 ∧ KPT (σ 0 27) (σ' 0 27) (σ 8) (σ' 8) (σ 2) ∧ σ' 2 = dealF (σ 2) n fr) ∨ (¬ DLc2 (σ 2) n ∧ r = 0 ∧ SAMEx σ σ')) → Q (some (xvi r)) σ') : xT kX11_deal [xvr 0, xvi n, xvi fr] σ Q := by
  refine jkX11_deal _ _ (fun o ς => ∃ r : Int, o = some (xvi r) ∧ (RK σ ς)) (fun o ς => ∃ r : Int, o = some (xvi r) ∧ Fr [2, 8, 21] [0, 27, 49] σ ς ∧ (((DLc2 (σ 2) n ∧ r = 1 ∧ KPT (σ 0 27) (ς 0 27) (σ 8) (ς 8) (σ 2) ∧ ς 2 = dealF (σ 2) n fr) ∨ (¬ DLc2 (σ 2) n ∧ r = 0 ∧ SAMEx σ ς)))) _ (s_deal hI (fun r ς p => ⟨r, rfl, p⟩)) (s_dealF hI hp1_ (fun r ς f p => ⟨r, rfl, f, p⟩)) (fun o ς h1 h2 => ?_)
  obtain ⟨r, rfl, p0⟩ := h1
  obtain ⟨r2, e2, f1, p1⟩ := h2
  have e3 : r = r2 := by cases e2; rfl
  subst e3
  exact hQ r ς p0 f1 p1
theorem s_undoJ {σ : xS}  {Q : Option xV → xS → Prop} (hp0 : RI σ) (hp0_ : 0 ≤ σ 0 27 ∧ σ 0 27 ≤ 8) (hQ : ∀ r : Int, ∀ σ' : xS, (RK σ σ') → Fr [2] [0, 27] σ σ' → ((σ 0 27 = 0 ∧ r = -1 ∧ σ' 0 27 = σ 0 27 ∧ σ' 2 = σ 2) ∨ (¬ σ 0 27 = 0 ∧ r = σ 0 27 - 1 ∧ σ' 0 27 = σ 0 27 - 1 ∧ (∀ q : Nat, q < 4 ∨ 584 ≤ q → σ' 2 q = σ 2 q) ∧ ∀ q : Nat, q < 580 → σ' 2 (4 + q) = bkj (σ 8) (σ 0 27 - 1).toNat q)) → Q (some (xvi r)) σ') : xT kX11_undo [xvr 0] σ Q := by
  refine jkX11_undo _ _ (fun o ς => ∃ r : Int, o = some (xvi r) ∧ (RK σ ς)) (fun o ς => ∃ r : Int, o = some (xvi r) ∧ Fr [2] [0, 27] σ ς ∧ (((σ 0 27 = 0 ∧ r = -1 ∧ ς 0 27 = σ 0 27 ∧ ς 2 = σ 2) ∨ (¬ σ 0 27 = 0 ∧ r = σ 0 27 - 1 ∧ ς 0 27 = σ 0 27 - 1 ∧ (∀ q : Nat, q < 4 ∨ 584 ≤ q → ς 2 q = σ 2 q) ∧ ∀ q : Nat, q < 580 → ς 2 (4 + q) = bkj (σ 8) (σ 0 27 - 1).toNat q)))) _ (s_undo hp0 (fun r ς p => ⟨r, rfl, p⟩)) (s_undoF hp0_ (fun r ς f p => ⟨r, rfl, f, p⟩)) (fun o ς h1 h2 => ?_)
  obtain ⟨r, rfl, p0⟩ := h1
  obtain ⟨r2, e2, f1, p1⟩ := h2
  have e3 : r = r2 := by cases e2; rfl
  subst e3
  exact hQ r ς p0 f1 p1
theorem s_playJ {σ : xS} {n : Int} {Q : Option xV → xS → Prop} (hp0 : RI σ) (hp1_ : TV (σ 2)) (hp2_ : BYx (σ 1) (σ 0 2)) (hQ : ∀ r : Int, ∀ σ' : xS, (RZ σ σ') → Fr [2, 7, 8, 20] [0, 2, 3, 4, 5, 24, 27] σ σ' → (σ' 0 2 = 0 ∧ ((¬ RLS (σ 2) (σ 1) (σ 0 2) n ∧ r = -1 ∧ SAMEx σ σ') ∨ (RLS (σ 2) (σ 1) (σ 0 2) n ∧ ((σ 2 4 = -1 ∧ r = 0 ∧ SAMEx σ σ') ∨ (¬ σ 2 4 = -1 ∧ KPT (σ 0 27) (σ' 0 27) (σ 8) (σ' 8) (σ 2) ∧ (TV (σ' 2) ∧ (∀ i : Nat, i < 4 ∨ 571 ≤ i → σ' 2 i = σ 2 i) ∧ (0 ≤ r ∧ r ≤ n)) ∧ σ' 2 = plyN (σ 2) (σ 1) n.toNat ∧ r = plyD (σ 2) (σ 1) n.toNat ∧ (((1 : Int) = 0 ∧ σ' 7 = σ 7 ∧ σ' 0 24 = σ 0 24) ∨ (¬ (1 : Int) = 0 ∧ (∀ i : Nat, i < 8 → σ' 7 i = plyR (σ 7) (σ 2) (σ 1) n.toNat i) ∧ ((r = 0 ∧ σ' 0 24 = σ 0 24) ∨ (0 < r ∧ σ' 0 24 = 1))))))))) → Q (some (xvi r)) σ') : xT kX11_play [xvr 0, xvi n] σ Q := by
  refine jkX11_play _ _ (fun o ς => ∃ r : Int, o = some (xvi r) ∧ (RZ σ ς)) (fun o ς => ∃ r : Int, o = some (xvi r) ∧ Fr [2, 7, 8, 20] [0, 2, 3, 4, 5, 24, 27] σ ς ∧ ((ς 0 2 = 0 ∧ ((¬ RLS (σ 2) (σ 1) (σ 0 2) n ∧ r = -1 ∧ SAMEx σ ς) ∨ (RLS (σ 2) (σ 1) (σ 0 2) n ∧ ((σ 2 4 = -1 ∧ r = 0 ∧ SAMEx σ ς) ∨ (¬ σ 2 4 = -1 ∧ KPT (σ 0 27) (ς 0 27) (σ 8) (ς 8) (σ 2) ∧ (TV (ς 2) ∧ (∀ i : Nat, i < 4 ∨ 571 ≤ i → ς 2 i = σ 2 i) ∧ (0 ≤ r ∧ r ≤ n)) ∧ ς 2 = plyN (σ 2) (σ 1) n.toNat ∧ r = plyD (σ 2) (σ 1) n.toNat ∧ (((1 : Int) = 0 ∧ ς 7 = σ 7 ∧ ς 0 24 = σ 0 24) ∨ (¬ (1 : Int) = 0 ∧ (∀ i : Nat, i < 8 → ς 7 i = plyR (σ 7) (σ 2) (σ 1) n.toNat i) ∧ ((r = 0 ∧ ς 0 24 = σ 0 24) ∨ (0 < r ∧ ς 0 24 = 1))))))))))) _ (s_play hp0 (fun r ς p => ⟨r, rfl, p⟩)) (s_playF hp0 hp1_ hp2_ (fun r ς f p => ⟨r, rfl, f, p⟩)) (fun o ς h1 h2 => ?_)
  obtain ⟨r, rfl, p0⟩ := h1
  obtain ⟨r2, e2, f1, p1⟩ := h2
  have e3 : r = r2 := by cases e2; rfl
  subst e3
  exact hQ r ς p0 f1 p1
theorem s_eveningJ {σ : xS} {lives : Int} {Q : Option xV → xS → Prop} (hp0 : RI σ) (hp0_ : True) (hp2_ : BYx (σ 1) (σ 0 2)) (hp3_ : ∀ j : Nat, j < 19 → σ 6 j = R8.getD j 0) (hp4_ : TV (σ 2)) (hQ : ∀ r : Int, ∀ σ' : xS, ((((lives < 0 ∨ 1 < lives) ∧ r = -1000) ∧ RK σ σ') ∨ ((0 ≤ lives ∧ lives ≤ 1) ∧ RZ σ σ')) → Fr [2, 4, 7, 8, 9, 22] [0, 2, 3, 4, 5, 11, 12, 13, 14, 15, 16, 17, 18, 24, 27, 52, 54] σ σ' → (EVR σ σ' lives r) → Q (some (xvi r)) σ') : xT kX11_evening [xvr 0, xvi lives] σ Q := by
  refine jkX11_evening _ _ (fun o ς => ∃ r : Int, o = some (xvi r) ∧ ((((lives < 0 ∨ 1 < lives) ∧ r = -1000) ∧ RK σ ς) ∨ ((0 ≤ lives ∧ lives ≤ 1) ∧ RZ σ ς))) (fun o ς => ∃ r : Int, o = some (xvi r) ∧ Fr [2, 4, 7, 8, 9, 22] [0, 2, 3, 4, 5, 11, 12, 13, 14, 15, 16, 17, 18, 24, 27, 52, 54] σ ς ∧ ((EVR σ ς lives r))) _ (s_evening hp0 (fun r ς p => ⟨r, rfl, p⟩)) (s_eveningF hp0_ hp0 hp2_ hp3_ hp4_ (fun r ς f p => ⟨r, rfl, f, p⟩)) (fun o ς h1 h2 => ?_)
  obtain ⟨r, rfl, p0⟩ := h1
  obtain ⟨r2, e2, f1, p1⟩ := h2
  have e3 : r = r2 := by cases e2; rfl
  subst e3
  exact hQ r ς p0 f1 p1
theorem s_imageJ {σ : xS} {k : Int} {Q : Option xV → xS → Prop} (hp0 : RI σ)  (hQ : ∀ r : Int, ∀ σ' : xS, (((0 ≤ k ∧ k ≤ 1) ∧ r = 1 ∧ RI σ' ∧ σ' 0 2 = σ 0 2 ∧ σ' 27 = up (σ 27) k.toNat 1 ∧ σ' 1 = σ 1 ∧ σ' 6 = σ 6) ∨ ((k < 0 ∨ 1 < k) ∧ r = 0 ∧ RK σ σ')) → Fr [25, 26, 27] [0] σ σ' → (((0 ≤ k ∧ k ≤ 1) ∧ r = 1 ∧ ((∀ q : Nat, q < 765 → σ' 25 (765 * k.toNat + q) = σ 2 q) ∧ ∀ q : Nat, (q < 765 * k.toNat ∨ 765 * k.toNat + 765 ≤ q) → σ' 25 q = σ 25 q) ∧ ((∀ q : Nat, q < 6 → σ' 26 (6 * k.toNat + q) = σ 5 q) ∧ ∀ q : Nat, (q < 6 * k.toNat ∨ 6 * k.toNat + 6 ≤ q) → σ' 26 q = σ 26 q) ∧ σ' 27 = up (σ 27) k.toNat 1) ∨ (¬ (0 ≤ k ∧ k ≤ 1) ∧ r = 0 ∧ σ' 25 = σ 25 ∧ σ' 26 = σ 26 ∧ σ' 27 = σ 27)) → Q (some (xvi r)) σ') : xT kX11_image [xvr 0, xvi k] σ Q := by
  refine jkX11_image _ _ (fun o ς => ∃ r : Int, o = some (xvi r) ∧ (((0 ≤ k ∧ k ≤ 1) ∧ r = 1 ∧ RI ς ∧ ς 0 2 = σ 0 2 ∧ ς 27 = up (σ 27) k.toNat 1 ∧ ς 1 = σ 1 ∧ ς 6 = σ 6) ∨ ((k < 0 ∨ 1 < k) ∧ r = 0 ∧ RK σ ς))) (fun o ς => ∃ r : Int, o = some (xvi r) ∧ Fr [25, 26, 27] [0] σ ς ∧ ((((0 ≤ k ∧ k ≤ 1) ∧ r = 1 ∧ ((∀ q : Nat, q < 765 → ς 25 (765 * k.toNat + q) = σ 2 q) ∧ ∀ q : Nat, (q < 765 * k.toNat ∨ 765 * k.toNat + 765 ≤ q) → ς 25 q = σ 25 q) ∧ ((∀ q : Nat, q < 6 → ς 26 (6 * k.toNat + q) = σ 5 q) ∧ ∀ q : Nat, (q < 6 * k.toNat ∨ 6 * k.toNat + 6 ≤ q) → ς 26 q = σ 26 q) ∧ ς 27 = up (σ 27) k.toNat 1) ∨ (¬ (0 ≤ k ∧ k ≤ 1) ∧ r = 0 ∧ ς 25 = σ 25 ∧ ς 26 = σ 26 ∧ ς 27 = σ 27)))) _ (s_image hp0 (fun r ς p => ⟨r, rfl, p⟩)) (s_imageF hp0 (fun r ς f p => ⟨r, rfl, f, p⟩)) (fun o ς h1 h2 => ?_)
  obtain ⟨r, rfl, p0⟩ := h1
  obtain ⟨r2, e2, f1, p1⟩ := h2
  have e3 : r = r2 := by cases e2; rfl
  subst e3
  exact hQ r ς p0 f1 p1
theorem s_restoreJ {σ : xS} {k : Int} {Q : Option xV → xS → Prop} (hp0 : RI σ)  (hQ : ∀ r : Int, ∀ σ' : xS, (((0 ≤ k ∧ k ≤ 1) ∧ ¬ σ 27 k.toNat = 0 ∧ r = 1 ∧ RI σ' ∧ σ' 0 2 = σ 0 2 ∧ σ' 27 = σ 27 ∧ σ' 1 = σ 1 ∧ σ' 6 = σ 6) ∨ (((k < 0 ∨ 1 < k) ∨ σ 27 k.toNat = 0) ∧ r = 0 ∧ RK σ σ')) → Fr [2, 5] [0, 27] σ σ' → ((((0 ≤ k ∧ k ≤ 1) ∧ ¬ σ 27 k.toNat = 0) ∧ r = 1 ∧ (∀ q : Nat, q < 765 → σ' 2 q = σ 25 (765 * k.toNat + q)) ∧ (∀ q : Nat, q < 6 → σ' 5 q = σ 26 (6 * k.toNat + q)) ∧ σ' 0 27 = 0) ∨ (¬ ((0 ≤ k ∧ k ≤ 1) ∧ ¬ σ 27 k.toNat = 0) ∧ r = 0 ∧ σ' 2 = σ 2 ∧ σ' 5 = σ 5 ∧ σ' 0 27 = σ 0 27)) → Q (some (xvi r)) σ') : xT kX11_restore [xvr 0, xvi k] σ Q := by
  refine jkX11_restore _ _ (fun o ς => ∃ r : Int, o = some (xvi r) ∧ (((0 ≤ k ∧ k ≤ 1) ∧ ¬ σ 27 k.toNat = 0 ∧ r = 1 ∧ RI ς ∧ ς 0 2 = σ 0 2 ∧ ς 27 = σ 27 ∧ ς 1 = σ 1 ∧ ς 6 = σ 6) ∨ (((k < 0 ∨ 1 < k) ∨ σ 27 k.toNat = 0) ∧ r = 0 ∧ RK σ ς))) (fun o ς => ∃ r : Int, o = some (xvi r) ∧ Fr [2, 5] [0, 27] σ ς ∧ (((((0 ≤ k ∧ k ≤ 1) ∧ ¬ σ 27 k.toNat = 0) ∧ r = 1 ∧ (∀ q : Nat, q < 765 → ς 2 q = σ 25 (765 * k.toNat + q)) ∧ (∀ q : Nat, q < 6 → ς 5 q = σ 26 (6 * k.toNat + q)) ∧ ς 0 27 = 0) ∨ (¬ ((0 ≤ k ∧ k ≤ 1) ∧ ¬ σ 27 k.toNat = 0) ∧ r = 0 ∧ ς 2 = σ 2 ∧ ς 5 = σ 5 ∧ ς 0 27 = σ 0 27)))) _ (s_restore hp0 (fun r ς p => ⟨r, rfl, p⟩)) (s_restoreF hp0 (fun r ς f p => ⟨r, rfl, f, p⟩)) (fun o ς h1 h2 => ?_)
  obtain ⟨r, rfl, p0⟩ := h1
  obtain ⟨r2, e2, f1, p1⟩ := h2
  have e3 : r = r2 := by cases e2; rfl
  subst e3
  exact hQ r ς p0 f1 p1
