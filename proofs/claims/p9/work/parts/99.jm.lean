/-! What the class's other calls leave alone. -/
def STW (w w' : Nat → Bool) (σ σ' : xS) : Prop := STC σ σ' ∧ ∀ c, 1 ≤ c → c ≤ 12 → w' c = w c
theorem STW.rf {w : Nat → Bool} {σ : xS} : STW w w σ σ := ⟨STC.rf, fun _ _ _ => rfl⟩
def keptK (w w' : Nat → Bool) (σ σ' : xS) : Prop := keptW w w' σ σ' ∧ STW w w' σ σ'
theorem kk_rfl {w : Nat → Bool} {σ : xS} : keptK w w σ σ := ⟨kw_rfl, STW.rf⟩
theorem kk_fr {w : Nat → Bool} {ts js : List Nat} {σ σ' : xS} (f : Fr ts js σ σ') (h1 : 1 ∉ ts := by decide) (h31 : 31 ∉ ts := by decide) (h : ts.all (fun u => decide (u = 0 ∨ u = 1 ∨ (15 ≤ u ∧ u ≤ 38) ∨ u = 41 ∨ u = 42 ∨ u = 44 ∨ u = 45 ∨ u = 46 ∨ 181 ≤ u)) = true := by decide) : keptK w w σ σ' := ⟨kw_fr f h1 h31, stc_fr f h, fun _ _ _ => rfl⟩
theorem blk_lo {u b : Nat} (hu : u < 181) (hb : b = 13 ∨ b = 14) : blkV u ≠ b := by
  unfold blkV
  split <;> (try split) <;> (try split) <;> (try split) <;> omega
theorem kk_on {w : Nat → Bool} {b : Nat} {σ σ1 σ' : xS} {ts js : List Nat} (hb : b = 13 ∨ b = 14) (h0 : ∀ t, blkV t ≠ b → σ1 t = σ t) (f : Fr ts js σ1 σ') (hts : ts.all (fun t => decide (181 ≤ t)) = true := by decide) : keptK w (wOn w b) σ σ' := by
  have hn : ∀ u, u < 181 → u ∉ ts := fun u hu hm => by
    have z := of_decide_eq_true (List.all_eq_true.mp hts u hm)
    omega
  refine ⟨kw_on (by omega) (KT.tr ⟨h0 1 (blk_lo (by omega) hb), h0 31 (blk_lo (by omega) hb)⟩ (kt_fr f (hn 1 (by omega)) (hn 31 (by omega)))), fun u hu => ?_, fun c h1 h2 => ?_⟩
  · exact (f.1 u (by omega) (hn u (by omega))).trans (h0 u (blk_lo (by omega) hb))
  · unfold wOn
    rw [if_neg (by omega)]
theorem kk_mg {w w' : Nat → Bool} {σ σ1 σ2 : xS} (h : keptK w w' σ σ1) (e : ∀ u, u < 181 → σ2 u = σ1 u) : keptK w w' σ σ2 := by
  obtain ⟨⟨a, b, c, d⟩, s, t⟩ := h
  exact ⟨⟨a, b, (e 1 (by omega)).trans c, (e 31 (by omega)).trans d⟩, fun u hu => (e u (by omega)).trans (s u hu), t⟩
def RsK (_ : List xV) (σ : xS) (w : Nat → Bool) (r : Option xV) (w' : Nat → Bool) (σ' : xS) : Prop := (∃ z : Int, r = some (xvi z)) ∧ σ' 0 1 = σ 0 1 ∧ w' 9 = w 9 ∧ keptK w w' σ σ'
def RzK (_ : List xV) (σ : xS) (w : Nat → Bool) (r : Option xV) (w' : Nat → Bool) (σ' : xS) : Prop := (∃ z : Int, r = some (xvi z)) ∧ σ' 0 1 = 0 ∧ w' 9 = w 9 ∧ keptK w w' σ σ'
def RendK (as : List xV) (σ : xS) (w : Nat → Bool) (r : Option xV) (w' : Nat → Bool) (σ' : xS) : Prop := (∃ z : Int, r = some (xvi z) ∧ ∀ n : Int, as = [xvr 0, xvi n] → (((n < 0 ∨ σ 0 1 < n) ∧ z = 0 ∧ σ' 0 1 = σ 0 1) ∨ (0 ≤ n ∧ n ≤ σ 0 1 ∧ z = 1 ∧ σ' 0 1 = n))) ∧ w' 9 = w 9 ∧ keptK w w' σ σ'
def feedEK : vE := fun w as σ Q => ∃ a b c d e : Int, as = [xvr 0, xvi a, xvi b, xvi c, xvi d, xvi e] ∧ JW w σ ∧ ∀ r w' σ', JW w' σ' → RfF a b c d e σ w r w' σ' → STW w w' σ σ' → Q r w' σ'
theorem mvX10_faultK (l : Launch) (D : va_G) (yv : Nat → ClassId) : vMt l D yv yX10_fault cX10_fault 1 (some .int) 0 (fun _ => 0) (fun _ => 0) (pubE ar0 RsK) := by
  refine (vOf1 (mX10_fault l D yv) subB0 (by decide)).mono (fun w as σ Q h => ?_)
  obtain ⟨hJ, rfl, hQ⟩ := h
  refine ⟨by rfl, ?_⟩
  exact sX10_fault (σ := xsel tB σ)  (fun r => by show Q _ w (xbk tB σ (xsel tB σ)); rw [xbk_sel]; exact hQ _ w σ hJ ⟨⟨_, rfl⟩, rfl, rfl, kk_rfl⟩)
theorem mvX10_personK (l : Launch) (D : va_G) (yv : Nat → ClassId) : vMt l D yv yX10_person cX10_person 3 (some .int) 2 (fun _ => 0) (fun _ => 0) (pubE ar2 RsK) := by
  refine (vOf1 (mX10_person l D yv) subB0 (by decide)).mono (fun w as σ Q h => ?_)
  obtain ⟨hJ, ⟨x1, x2, rfl⟩, hQ⟩ := h
  refine ⟨by rfl, ?_⟩
  exact sX10_person (σ := xsel tB σ) (by exact hJ.g) (fun r => by show Q _ w (xbk tB σ (xsel tB σ)); rw [xbk_sel]; exact hQ _ w σ hJ ⟨⟨_, rfl⟩, rfl, rfl, kk_rfl⟩)
theorem mvX10_bookK (l : Launch) (D : va_G) (yv : Nat → ClassId) : vMt l D yv yX10_book cX10_book 2 (some .int) 1 (fun _ => 0) (fun _ => 0) (pubE ar1 RsK) := by
  refine (vOf1 (mX10_book l D yv) subB0 (by decide)).mono (fun w as σ Q h => ?_)
  obtain ⟨hJ, ⟨x1, rfl⟩, hQ⟩ := h
  refine ⟨by rfl, ?_⟩
  exact sX10_book (σ := xsel tB σ) (by exact hJ.g) (fun r => by show Q _ w (xbk tB σ (xsel tB σ)); rw [xbk_sel]; exact hQ _ w σ hJ ⟨⟨_, rfl⟩, rfl, rfl, kk_rfl⟩)
theorem mvX10_heapK (l : Launch) (D : va_G) (yv : Nat → ClassId) : vMt l D yv yX10_heap cX10_heap 2 (some .int) 1 (fun _ => 0) (fun _ => 0) (pubE ar1 RsK) := by
  refine (vOf1 (mX10_heap l D yv) subB0 (by decide)).mono (fun w as σ Q h => ?_)
  obtain ⟨hJ, ⟨x1, rfl⟩, hQ⟩ := h
  refine ⟨by rfl, ?_⟩
  exact sX10_heap (σ := xsel tB σ) (by exact hJ.g) (fun r => by show Q _ w (xbk tB σ (xsel tB σ)); rw [xbk_sel]; exact hQ _ w σ hJ ⟨⟨_, rfl⟩, rfl, rfl, kk_rfl⟩)
theorem mvX10_nowK (l : Launch) (D : va_G) (yv : Nat → ClassId) : vMt l D yv yX10_now cX10_now 2 (some .int) 2 (fun _ => 0) (fun _ => 0) (pubE ar1 RsK) := by
  refine (vOf1 (mX10_now l D yv) subB0 (by decide)).mono (fun w as σ Q h => ?_)
  obtain ⟨hJ, ⟨x1, rfl⟩, hQ⟩ := h
  refine ⟨by rfl, ?_⟩
  exact sX10_now (σ := xsel tB σ) (by exact hJ.g) (fun r => by show Q _ w (xbk tB σ (xsel tB σ)); rw [xbk_sel]; exact hQ _ w σ hJ ⟨⟨_, rfl⟩, rfl, rfl, kk_rfl⟩)
theorem mvX10_whyK (l : Launch) (D : va_G) (yv : Nat → ClassId) : vMt l D yv yX10_why cX10_why 4 (some .int) 2 (fun _ => 0) (fun _ => 0) (pubE ar3 RsK) := by
  refine (vOf1 (mX10_why l D yv) subB0 (by decide)).mono (fun w as σ Q h => ?_)
  obtain ⟨hJ, ⟨x1, x2, x3, rfl⟩, hQ⟩ := h
  refine ⟨by rfl, ?_⟩
  exact sX10_why (σ := xsel tB σ) (by exact hJ.g) (fun r => by show Q _ w (xbk tB σ (xsel tB σ)); rw [xbk_sel]; exact hQ _ w σ hJ ⟨⟨_, rfl⟩, rfl, rfl, kk_rfl⟩)
theorem mvX10_askedK (l : Launch) (D : va_G) (yv : Nat → ClassId) : vMt l D yv yX10_asked cX10_asked 2 (some .int) 0 (fun _ => 0) (fun _ => 0) (pubE ar1 RsK) := by
  refine (vOf1 (mX10_asked l D yv) subB0 (by decide)).mono (fun w as σ Q h => ?_)
  obtain ⟨hJ, ⟨x1, rfl⟩, hQ⟩ := h
  refine ⟨by rfl, ?_⟩
  exact sX10_asked (σ := xsel tB σ)  (fun r => by show Q _ w (xbk tB σ (xsel tB σ)); rw [xbk_sel]; exact hQ _ w σ hJ ⟨⟨_, rfl⟩, rfl, rfl, kk_rfl⟩)
theorem mvX10_knownK (l : Launch) (D : va_G) (yv : Nat → ClassId) : vMt l D yv yX10_known cX10_known 3 (some .int) 1 (fun _ => 0) (fun _ => 0) (pubE ar2 RsK) := by
  refine (vOf1 (mX10_known l D yv) subB0 (by decide)).mono (fun w as σ Q h => ?_)
  obtain ⟨hJ, ⟨x1, x2, rfl⟩, hQ⟩ := h
  refine ⟨by rfl, ?_⟩
  exact sX10_known (σ := xsel tB σ) (by exact hJ.g) (fun r => by show Q _ w (xbk tB σ (xsel tB σ)); rw [xbk_sel]; exact hQ _ w σ hJ ⟨⟨_, rfl⟩, rfl, rfl, kk_rfl⟩)
theorem mvX10_canK (l : Launch) (D : va_G) (yv : Nat → ClassId) : vMt l D yv yX10_can cX10_can 3 (some .int) 1 (fun _ => 0) (fun _ => 0) (pubE ar2 RsK) := by
  refine (vOf1 (mX10_can l D yv) subB0 (by decide)).mono (fun w as σ Q h => ?_)
  obtain ⟨hJ, ⟨x1, x2, rfl⟩, hQ⟩ := h
  refine ⟨by rfl, ?_⟩
  exact sX10_can (σ := xsel tB σ) (by exact hJ.g) (fun r => by show Q _ w (xbk tB σ (xsel tB σ)); rw [xbk_sel]; exact hQ _ w σ hJ ⟨⟨_, rfl⟩, rfl, rfl, kk_rfl⟩)
theorem mvX10_sweptK (l : Launch) (D : va_G) (yv : Nat → ClassId) : vMt l D yv yX10_swept cX10_swept 2 (some .int) 0 (fun _ => 0) (fun _ => 0) (pubE ar1 RsK) := by
  refine (vOf1 (mX10_swept l D yv) subB0 (by decide)).mono (fun w as σ Q h => ?_)
  obtain ⟨hJ, ⟨x1, rfl⟩, hQ⟩ := h
  refine ⟨by rfl, ?_⟩
  exact sX10_swept (σ := xsel tB σ) (by exact hJ.1.2.2.2.1) (fun r => by show Q _ w (xbk tB σ (xsel tB σ)); rw [xbk_sel]; exact hQ _ w σ hJ ⟨⟨_, rfl⟩, rfl, rfl, kk_rfl⟩)
theorem mvX10_gainsK (l : Launch) (D : va_G) (yv : Nat → ClassId) : vMt l D yv yX10_gains cX10_gains 4 (some .int) 2 (fun _ => 0) (fun _ => 0) (pubE ar1 RsK) := by
  refine (vOf1 (mX10_gains l D yv) subB0 (by decide)).mono (fun w as σ Q h => ?_)
  obtain ⟨hJ, ⟨x1, rfl⟩, hQ⟩ := h
  refine ⟨by rfl, ?_⟩
  exact sX10_gains (σ := xsel tB σ) (by exact hJ.g) (fun r => by show Q _ w (xbk tB σ (xsel tB σ)); rw [xbk_sel]; exact hQ _ w σ hJ ⟨⟨_, rfl⟩, rfl, rfl, kk_rfl⟩)
theorem mvX10_bentK (l : Launch) (D : va_G) (yv : Nat → ClassId) : vMt l D yv yX10_bent cX10_bent 3 (some .int) 3 (fun _ => 0) (fun _ => 0) (pubE ar2 RsK) := by
  refine (vOf1 (mX10_bent l D yv) subB0 (by decide)).mono (fun w as σ Q h => ?_)
  obtain ⟨hJ, ⟨x1, x2, rfl⟩, hQ⟩ := h
  refine ⟨by rfl, ?_⟩
  exact sX10_bent (σ := xsel tB σ) (by exact hJ.g) (fun r => by show Q _ w (xbk tB σ (xsel tB σ)); rw [xbk_sel]; exact hQ _ w σ hJ ⟨⟨_, rfl⟩, rfl, rfl, kk_rfl⟩)
theorem mvX10_leaderK (l : Launch) (D : va_G) (yv : Nat → ClassId) : vMt l D yv yX10_leader cX10_leader 5 (some .int) 1 (fun _ => 0) (fun _ => 0) (pubE ar0 RsK) := by
  refine (vOf1 (mX10_leader l D yv) subB0 (by decide)).mono (fun w as σ Q h => ?_)
  obtain ⟨hJ, rfl, hQ⟩ := h
  refine ⟨by rfl, ?_⟩
  exact sX10_leader (σ := xsel tB σ) (by exact hJ.g) (fun r => by show Q _ w (xbk tB σ (xsel tB σ)); rw [xbk_sel]; exact hQ _ w σ hJ ⟨⟨_, rfl⟩, rfl, rfl, kk_rfl⟩)
theorem mvX10_heardK (l : Launch) (D : va_G) (yv : Nat → ClassId) : vMt l D yv yX10_heard cX10_heard 2 (some .int) 0 (fun _ => 0) (fun _ => 0) (pubE ar1 RsK) := by
  refine (vOf1 (mX10_heard l D yv) subB0 (by decide)).mono (fun w as σ Q h => ?_)
  obtain ⟨hJ, ⟨x1, rfl⟩, hQ⟩ := h
  refine ⟨by rfl, ?_⟩
  exact sX10_heard (σ := xsel tB σ)  (fun r => by show Q _ w (xbk tB σ (xsel tB σ)); rw [xbk_sel]; exact hQ _ w σ hJ ⟨⟨_, rfl⟩, rfl, rfl, kk_rfl⟩)
theorem mvX10_saidK (l : Launch) (D : va_G) (yv : Nat → ClassId) : vMt l D yv yX10_said cX10_said 4 (some .int) 4 (fun _ => 0) (fun _ => 0) (pubE ar1 RsK) := by
  refine (vOf1 (mX10_said l D yv) subB0 (by decide)).mono (fun w as σ Q h => ?_)
  obtain ⟨hJ, ⟨x1, rfl⟩, hQ⟩ := h
  refine ⟨by rfl, ?_⟩
  exact sX10_said (σ := xsel tB σ) (by exact hJ.g) (by exact hJ.1.2.2.1) (fun r => by show Q _ w (xbk tB σ (xsel tB σ)); rw [xbk_sel]; exact hQ _ w σ hJ ⟨⟨_, rfl⟩, rfl, rfl, kk_rfl⟩)
theorem mvX10_countK (l : Launch) (D : va_G) (yv : Nat → ClassId) : vMt l D yv yX10_count cX10_count 2 (some .int) 0 (fun _ => 0) (fun _ => 0) (pubE ar1 RsK) := by
  refine (vOf1 (mX10_count l D yv) subB0 (by decide)).mono (fun w as σ Q h => ?_)
  obtain ⟨hJ, ⟨x1, rfl⟩, hQ⟩ := h
  refine ⟨by rfl, ?_⟩
  exact sX10_count (σ := xsel tB σ)  (fun r => by show Q _ w (xbk tB σ (xsel tB σ)); rw [xbk_sel]; exact hQ _ w σ hJ ⟨⟨_, rfl⟩, rfl, rfl, kk_rfl⟩)
theorem mvX10_gamesK (l : Launch) (D : va_G) (yv : Nat → ClassId) : vMt l D yv yX10_games cX10_games 5 (some .int) 7 (fun _ => 0) (fun _ => 0) (pubE ar4 RsK) := by
  refine (vOf1 (mX10_games l D yv) subB0 (by decide)).mono (fun w as σ Q h => ?_)
  obtain ⟨hJ, ⟨x1, x2, x3, x4, rfl⟩, hQ⟩ := h
  refine ⟨by rfl, ?_⟩
  exact sX10_games (σ := xsel tB σ) (by exact hJ.g) (fun r ς f => hQ _ w _ (hJ.sm (ts := [15, 16, 17, 18, 19, 20, 21, 22, 23, 24, 25, 26, 27, 44]) (js := []) (f.bk0 (by decide) (by decide) (by decide)) (by decide) (by rw [(f.bk0 (τ := tB) (ts2 := [15, 16, 17, 18, 19, 20, 21, 22, 23, 24, 25, 26, 27, 44]) (js2 := []) (by decide) (by decide) (by decide)).2 1 (by simp)]; exact hJ.1.1) (by rw [(f.bk0 (τ := tB) (ts2 := [15, 16, 17, 18, 19, 20, 21, 22, 23, 24, 25, 26, 27, 44]) (js2 := []) (by decide) (by decide) (by decide)).2 17 (by simp)]; exact hJ.1.2.2.2.1)) ⟨⟨_, rfl⟩, (f.bk0 (τ := tB) (ts2 := [15, 16, 17, 18, 19, 20, 21, 22, 23, 24, 25, 26, 27, 44]) (js2 := []) (by decide) (by decide) (by decide)).2 1 (by simp), rfl, kk_fr (f.bk0 (τ := tB) (ts2 := [15, 16, 17, 18, 19, 20, 21, 22, 23, 24, 25, 26, 27, 44]) (js2 := []) (by decide) (by decide) (by decide))⟩)
theorem mvX10_lengthK (l : Launch) (D : va_G) (yv : Nat → ClassId) : vMt l D yv yX10_length cX10_length 5 (some .int) 7 (fun _ => 0) (fun _ => 0) (pubE ar4 RsK) := by
  refine (vOf1 (mX10_length l D yv) subB0 (by decide)).mono (fun w as σ Q h => ?_)
  obtain ⟨hJ, ⟨x1, x2, x3, x4, rfl⟩, hQ⟩ := h
  refine ⟨by rfl, ?_⟩
  exact sX10_length (σ := xsel tB σ) (by exact hJ.g) (fun r ς f => hQ _ w _ (hJ.sm (ts := [15, 16, 17, 18, 19, 20, 21, 22, 23, 24, 25, 26, 27, 44]) (js := []) (f.bk0 (by decide) (by decide) (by decide)) (by decide) (by rw [(f.bk0 (τ := tB) (ts2 := [15, 16, 17, 18, 19, 20, 21, 22, 23, 24, 25, 26, 27, 44]) (js2 := []) (by decide) (by decide) (by decide)).2 1 (by simp)]; exact hJ.1.1) (by rw [(f.bk0 (τ := tB) (ts2 := [15, 16, 17, 18, 19, 20, 21, 22, 23, 24, 25, 26, 27, 44]) (js2 := []) (by decide) (by decide) (by decide)).2 17 (by simp)]; exact hJ.1.2.2.2.1)) ⟨⟨_, rfl⟩, (f.bk0 (τ := tB) (ts2 := [15, 16, 17, 18, 19, 20, 21, 22, 23, 24, 25, 26, 27, 44]) (js2 := []) (by decide) (by decide) (by decide)).2 1 (by simp), rfl, kk_fr (f.bk0 (τ := tB) (ts2 := [15, 16, 17, 18, 19, 20, 21, 22, 23, 24, 25, 26, 27, 44]) (js2 := []) (by decide) (by decide) (by decide))⟩)
theorem mvX10_replyK (l : Launch) (D : va_G) (yv : Nat → ClassId) : vMt l D yv yX10_reply cX10_reply 8 (some .int) 7 (fun _ => 0) (fun _ => 0) (pubE ar3 RsK) := by
  refine (vOf1 (mX10_reply l D yv) subB0 (by decide)).mono (fun w as σ Q h => ?_)
  obtain ⟨hJ, ⟨x1, x2, x3, rfl⟩, hQ⟩ := h
  refine ⟨by rfl, ?_⟩
  exact sX10_reply (σ := xsel tB σ) (by exact hJ.g) (fun r ς f => hQ _ w _ (hJ.sm (ts := [15, 16, 17, 18, 19, 20, 21, 22, 23, 24, 25, 26, 27, 44]) (js := []) (f.bk0 (by decide) (by decide) (by decide)) (by decide) (by rw [(f.bk0 (τ := tB) (ts2 := [15, 16, 17, 18, 19, 20, 21, 22, 23, 24, 25, 26, 27, 44]) (js2 := []) (by decide) (by decide) (by decide)).2 1 (by simp)]; exact hJ.1.1) (by rw [(f.bk0 (τ := tB) (ts2 := [15, 16, 17, 18, 19, 20, 21, 22, 23, 24, 25, 26, 27, 44]) (js2 := []) (by decide) (by decide) (by decide)).2 17 (by simp)]; exact hJ.1.2.2.2.1)) ⟨⟨_, rfl⟩, (f.bk0 (τ := tB) (ts2 := [15, 16, 17, 18, 19, 20, 21, 22, 23, 24, 25, 26, 27, 44]) (js2 := []) (by decide) (by decide) (by decide)).2 1 (by simp), rfl, kk_fr (f.bk0 (τ := tB) (ts2 := [15, 16, 17, 18, 19, 20, 21, 22, 23, 24, 25, 26, 27, 44]) (js2 := []) (by decide) (by decide) (by decide))⟩)
