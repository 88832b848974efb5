/-! THE PURE PART 18: what holds between two calls; calls that change nothing -/
def sc0 (N : Nat → Nat → Int32) (k : Int32) : Nat → Nat → Int32 := kb_up N 0 (upd (N 0) 0 k)
theorem sc0_0 {N : Nat → Nat → Int32} {k : Int32} : sc0 N k 0 0 = k := by unfold sc0; rw [pr_upS, pr_uS]
theorem sc0_c {N : Nat → Nat → Int32} {k : Int32} {c : Nat} (hc : c ≠ 0) : sc0 N k c = N c := by unfold sc0; rw [pr_upN hc]
theorem sc0_j {N : Nat → Nat → Int32} {k : Int32} {j : Nat} (hj : j ≠ 0) : sc0 N k 0 j = N 0 j := by unfold sc0; rw [pr_upS, pr_uN hj]
theorem goes1 {x1 x2 x3 : Int32} {N : Nat → Nat → Int32} (h1 : x1 = 0) : f_M_goes x1 x2 x3 N = some (0, sc0 N 1) := by
  unfold f_M_goes h_M_goes_26
  rw [if_pos h1, pr_st]
  show (if sc0 N 1 0 0 = 0 then some (1, sc0 N 1) else some (0, sc0 N 1)) = _
  rw [sc0_0, if_neg (by decide)]
theorem goes2 {x1 x2 x3 : Int32} {N : Nat → Nat → Int32} (h1 : ¬ x1 = 0) (h2 : x2 = 0) : f_M_goes x1 x2 x3 N = some (0, sc0 N 2) := by
  unfold f_M_goes h_M_goes_26
  rw [if_neg h1, if_pos h2, pr_st]
  show (if sc0 N 2 0 0 = 0 then some (1, sc0 N 2) else some (0, sc0 N 2)) = _
  rw [sc0_0, if_neg (by decide)]
theorem goes3 {x1 x2 x3 : Int32} {N : Nat → Nat → Int32} (h1 : ¬ x1 = 0) (h2 : ¬ x2 = 0) (h3 : x3 = 0) : f_M_goes x1 x2 x3 N = some (0, sc0 N 3) := by
  unfold f_M_goes h_M_goes_26
  rw [if_neg h1, if_neg h2, if_pos h3, pr_st]
  show (if sc0 N 3 0 0 = 0 then some (1, sc0 N 3) else some (0, sc0 N 3)) = _
  rw [sc0_0, if_neg (by decide)]
theorem goes0 {x1 x2 x3 : Int32} {N : Nat → Nat → Int32} (h1 : ¬ x1 = 0) (h2 : ¬ x2 = 0) (h3 : ¬ x3 = 0) : f_M_goes x1 x2 x3 N = some (1, sc0 N 0) := by
  unfold f_M_goes h_M_goes_26
  rw [if_neg h1, if_neg h2, if_neg h3, pr_st]
  show (if sc0 N 0 0 0 = 0 then some (1, sc0 N 0) else some (0, sc0 N 0)) = _
  rw [sc0_0, if_pos rfl]
theorem one0 : ¬ (1 : Int32) = 0 := by decide
theorem in_lt {x : Int32} {n : Nat} (hn : n < 1000) : (0 ≤ x ∧ x ≤ nI n - 1) ↔ ∃ k, k < n ∧ x = nI k := by
  have e : (nI n - nI 1).toInt = (n : Int) - (1 : Nat) := pk_sub_toInt (by omega) (by omega)
  constructor
  · rintro ⟨h0, h1⟩
    obtain ⟨k, hk, rfl⟩ := nI_of (Int32.not_lt.mpr h0)
    have h2 : nI k ≤ nI n - nI 1 := h1
    rw [Int32.le_iff_toInt_le, e, nI_toInt hk] at h2
    exact ⟨k, by omega, rfl⟩
  · rintro ⟨k, hk, rfl⟩
    refine ⟨nI_pos' (by omega), ?_⟩
    show nI k ≤ nI n - nI 1
    rw [Int32.le_iff_toInt_le, e, nI_toInt (by omega)]
    omega
theorem in_rng {x : Int32} {a b : Nat} (hb : b < 2 ^ 30) (hab : a ≤ b) : (nI a ≤ x ∧ x ≤ nI b) ↔ ∃ k, a ≤ k ∧ k ≤ b ∧ x = nI k := by
  constructor
  · rintro ⟨h0, h1⟩
    have h00 : (0 : Int32) ≤ x := Int32.le_trans (nI_pos' (show a < 2 ^ 31 by omega)) h0
    obtain ⟨k, hk, rfl⟩ := nI_of (Int32.not_lt.mpr h00)
    exact ⟨k, (nI_leI (by omega) hk).mp h0, (nI_leI hk (by omega)).mp h1, rfl⟩
  · rintro ⟨k, hk, hk2, rfl⟩
    exact ⟨(nI_leI (by omega) (by omega)).mpr hk, (nI_leI (by omega) (by omega)).mpr hk2⟩
theorem wi_y {x a b : Int32} {M : Nat → Nat → Int32} (h : a ≤ x ∧ x ≤ b) : f_P_isWithin x a b M = some (1, M) := by rw [pr_isWithin, if_pos h]
theorem wi_n {x a b : Int32} {M : Nat → Nat → Int32} (h : ¬ (a ≤ x ∧ x ≤ b)) : f_P_isWithin x a b M = some (0, M) := by rw [pr_isWithin, if_neg h]
theorem mi_y {x a b : Int32} {M : Nat → Nat → Int32} (h : a ≤ x ∧ x ≤ b) : f_M_in x a b M = some (1, M) := by rw [pr_in, if_pos h]
theorem mi_n {x a b : Int32} {M : Nat → Nat → Int32} (h : ¬ (a ≤ x ∧ x ≤ b)) : f_M_in x a b M = some (0, M) := by rw [pr_in, if_neg h]
theorem bz_1 {α : Type} (k : Option α) : kb_bz 1 k = k := if_pos (Or.inr rfl)
theorem bz_0 {α : Type} (k : Option α) : kb_bz 0 k = k := if_pos (Or.inl rfl)
theorem xc_n {α : Type} (b : Option α) : kb_xc none b = b := rfl
theorem xc_s {α : Type} (a : α) (b : Option α) : kb_xc (some a) b = some a := rfl
theorem cl_n {α : Type} (k : Int32 → (Nat → Nat → Int32) → Option α) : kb_cl none k = none := rfl
def wg (nc nw : Nat) (M N : Nat → Nat → Int32) : Prop := M 3 0 = nI nw ∧ N 0 19 = nI nw ∧ nw ≤ 4 ∧ (∀ j, j < nw → M 14 j = N 12 j ∧ M 15 j = N 13 j) ∧ (∀ p, p < nc → M 6 p = N 1 p ∧ M 16 p = N 4 p ∧ (M 16 p = -1 ∨ ∃ j, j < 4 ∧ M 16 p = nI j)) ∧ (∀ p, nc ≤ p → p < 10 → M 16 p = -1)
def sr (np nl : Nat) (h : Nat → Nat) (z : Nat → Nat → Nat) (M N : Nat → Nat → Int32) : Prop := ∃ s pv pl : Bool, M 2 0 = bI s ∧ N 0 15 = bI s ∧ (s = true → M 2 1 = bI pv ∧ N 0 16 = bI pv) ∧ M 2 2 = bI pl ∧ N 0 17 = bI pl ∧ (pl = true → ∃ x, x.length ≤ 22 ∧ mvV np nl (h, z) x ∧ mvC x M ∧ plM x N)
def Inv (M N : Nat → Nat → Int32) : Prop := ∃ (np nl nc nw : Nat) (len tim : Nat → Int32) (h : Nat → Nat) (z : Nat → Nat → Nat), yWF np nl nc tim h z ∧ yC np nl nc len tim h z M ∧ yM np nl nc len tim 0 h z N ∧ wg nc nw M N ∧ sr np nl h z M N
section QL
variable {np nl nc nw : Nat} {len tim : Nat → Int32} {h : Nat → Nat} {z : Nat → Nat → Nat} {M N M' N' : Nat → Nat → Int32}
/-- the reference's rows stay at depth 0 -/
def stM (N N' : Nat → Nat → Int32) : Prop := (∀ j, j = 1 ∨ j = 2 ∨ j = 3 → N' 0 j = N 0 j) ∧ (∀ j, j < 20 → N' 5 j = N 5 j) ∧ (∀ j, j < 4 → N' 6 j = N 6 j) ∧ N' 7 0 = N 7 0 ∧ N' 2 = N 2 ∧ N' 3 = N 3
theorem yM.stM (w : yWF np nl nc tim h z) (f : stM N N') (y : yM np nl nc len tim 0 h z N) : yM np nl nc len tim 0 h z N' := by
  obtain ⟨a1, a2, a3, a4, a5, a6, a7, g, g1, g2, g3⟩ := y
  obtain ⟨k0, k5, k6, k7, k2, k3⟩ := f
  have hl := w.2.2.2.2.1
  have hl5 := w.2.2.1
  refine ⟨by rw [k0 1 (by simp)]; exact a1, by rw [k0 2 (by simp)]; exact a2, by rw [k0 3 (by simp)]; exact a3, fun k hk => by rw [k6 _ (by omega)]; exact a4 k hk, fun k i hk hi => ?_, fun p hp => by rw [k2]; exact a6 p hp, fun p hp => by rw [k3]; exact a7 p hp, g, g1, by rw [k7]; exact g2, g3⟩
  have := hl k
  rw [k5 _ (by omega)]
  exact a5 k i hk hi
theorem stM.sc0 {k : Int32} : stM N (sc0 N k) := ⟨fun j hj => sc0_j (by omega), fun _ _ => by rw [sc0_c (by decide)], fun _ _ => by rw [sc0_c (by decide)], by rw [sc0_c (by decide)], sc0_c (by decide), sc0_c (by decide)⟩
theorem wg.stays (g : wg nc nw M N) (e : ∀ c, c = 3 ∨ c = 14 ∨ c = 15 ∨ c = 6 ∨ c = 16 → M' c = M c) (k0 : N' 0 19 = N 0 19) (k : ∀ c, c = 12 ∨ c = 13 ∨ c = 1 ∨ c = 4 → N' c = N c) : wg nc nw M' N' := by
  unfold wg
  rw [e 3 (by simp), e 14 (by simp), e 15 (by simp), e 6 (by simp), e 16 (by simp), k0, k 12 (by simp), k 13 (by simp), k 1 (by simp), k 4 (by simp)]
  exact g
theorem sr.stays (g : sr np nl h z M N) (e : ∀ c, c = 2 ∨ c = 11 ∨ c = 12 ∨ c = 13 → M' c = M c) (k0 : ∀ j, j = 15 ∨ j = 16 ∨ j = 17 ∨ j = 18 → N' 0 j = N 0 j) (k : ∀ c, c = 9 ∨ c = 10 → N' c = N c) : sr np nl h z M' N' := by
  unfold sr mvC plM
  rw [e 2 (by simp), e 11 (by simp), e 12 (by simp), e 13 (by simp), k0 15 (by simp), k0 16 (by simp), k0 17 (by simp), k0 18 (by simp), k 9 (by simp), k 10 (by simp)]
  exact g
/-- both have forgotten the search -/
theorem sr.none (e0 : M 2 0 = 0) (e2 : M 2 2 = 0) (k15 : N 0 15 = 0) (k17 : N 0 17 = 0) : sr np nl h z M N :=
  ⟨false, false, false, e0, k15, (fun q => by cases q), e2, k17, (fun q => by cases q)⟩
theorem Inv.code (k : Int32) (i : Inv M N) : Inv M (sc0 N k) := by
  obtain ⟨np, nl, nc, nw, len, tim, h, z, w, y, m, g, s⟩ := i
  exact ⟨np, nl, nc, nw, len, tim, h, z, w, y, yM.stM w stM.sc0 m, g.stays (fun _ _ => rfl) (sc0_j (by decide)) (fun c hc => sc0_c (by omega)), s.stays (fun _ _ => rfl) (fun j hj => sc0_j (by omega)) (fun c hc => sc0_c (by omega))⟩
theorem ev_forget (M : Nat → Nat → Int32) : ∃ M', f_S_forget M = some (0, M') ∧ stay [2] M M' ∧ M' 2 0 = 0 ∧ M' 2 2 = 0 ∧ M' 2 6 = 0 := by
  unfold f_S_forget
  rw [pr_st, pr_st, pr_st, pr_st]
  refine ⟨_, rfl, fun c hc => ?_, ?_, ?_, ?_⟩
  · have : c ≠ 2 := fun q => hc (by simp [q])
    rw [pr_upN this, pr_upN this, pr_upN this, pr_upN this]
  · rw [pr_upS, pr_uN (by decide), pr_upS, pr_uN (by decide), pr_upS, pr_uN (by decide), pr_upS, pr_uS]
  · rw [pr_upS, pr_uN (by decide), pr_upS, pr_uS]
  · rw [pr_upS, pr_uS]
theorem em_changed (N : Nat → Nat → Int32) : ∃ N', f_M_changed N = some (0, N') ∧ stay [0] N N' ∧ N' 0 15 = 0 ∧ N' 0 17 = 0 ∧ ∀ j, j ≠ 15 → j ≠ 17 → N' 0 j = N 0 j := by
  unfold f_M_changed
  rw [pr_st, pr_st]
  refine ⟨_, rfl, fun c hc => ?_, ?_, ?_, fun j a b => ?_⟩
  · have : c ≠ 0 := fun q => hc (by simp [q])
    rw [pr_upN this, pr_upN this]
  · rw [pr_upS, pr_uN (by decide), pr_upS, pr_uS]
  · rw [pr_upS, pr_uS]
  · rw [pr_upS, pr_uN b, pr_upS, pr_uN a]
theorem stay.stM (f : stay [0] N N') (k : ∀ j, j ≠ 15 → j ≠ 17 → N' 0 j = N 0 j) : stM N N' := ⟨fun j hj => k j (by omega) (by omega), fun _ _ => by rw [f 5 (by decide)], fun _ _ => by rw [f 6 (by decide)], by rw [f 7 (by decide)], f 2 (by decide), f 3 (by decide)⟩
/-- a piece's number -/
theorem cp_y (y : yC np nl nc len tim h z M) (w : yWF np nl nc tim h z) {p : Nat} (hp : p < nc) : f_P_checkPiece (nI p) M = some (0, M) ∧ x_P_checkPiece (nI p) M = none := by
  have hn := w.2.2.2.1
  have e : f_Y_hasPiece (nI p) M = some (1, M) := by
    unfold f_Y_hasPiece
    rw [y.2.2.1, pr_cc (wi_y ((in_lt (by omega)).mpr ⟨p, hp, rfl⟩)), bz_1]
  unfold f_P_checkPiece x_P_checkPiece
  rw [pr_cc e, pr_cc e, if_neg one0, if_neg one0]
  exact ⟨rfl, rfl⟩
theorem cp_n (y : yC np nl nc len tim h z M) (w : yWF np nl nc tim h z) {x : Int32} (hx : ¬ ∃ p, p < nc ∧ x = nI p) : f_P_checkPiece x M = none ∧ x_P_checkPiece x M = some (1, M) := by
  have hn := w.2.2.2.1
  have e : f_Y_hasPiece x M = some (0, M) := by
    unfold f_Y_hasPiece
    rw [y.2.2.1, pr_cc (wi_n (fun q => hx ((in_lt (by omega)).mp q))), bz_0]
  unfold f_P_checkPiece x_P_checkPiece
  rw [pr_cc e, pr_cc e, if_pos rfl, if_pos rfl]
  exact ⟨rfl, rfl⟩
theorem ip_y (m : yM np nl nc len tim 0 h z N) (w : yWF np nl nc tim h z) {p : Nat} (hp : p < nc) : f_M_isPiece (nI p) N = some (1, N) := by
  have hn := w.2.2.2.1
  unfold f_M_isPiece
  rw [m.2.2.1, pr_cc (mi_y ((in_lt (by omega)).mpr ⟨p, hp, rfl⟩)), bz_1]
theorem ip_n (m : yM np nl nc len tim 0 h z N) (w : yWF np nl nc tim h z) {x : Int32} (hx : ¬ ∃ p, p < nc ∧ x = nI p) : f_M_isPiece x N = some (0, N) := by
  have hn := w.2.2.2.1
  unfold f_M_isPiece
  rw [m.2.2.1, pr_cc (mi_n (fun q => hx ((in_lt (by omega)).mp q))), bz_0]
/-- refused by both -/
theorem oc_no {fr : Option (Int32 × (Nat → Nat → Int32))} {xr : Option (Nat × (Nat → Nat → Int32))} {ks : List Nat} (j x : Nat) (hj : ks[j]? = some x) (hx : xr = some (x, M)) : kb_oc fr xr ks (nI (j + 1)) 0 M := Or.inr ⟨j, x, hj, hx, rfl⟩
end QL
theorem o_may : op_may Inv := by
  intro x1 x2 M N i
  obtain ⟨np, nl, nc, nw, len, tim, h, z, w, y, m, g, s⟩ := id i
  have hn := w.2.2.2.1
  by_cases h1 : ∃ p, p < nc ∧ x1 = nI p
  · by_cases h2 : ∃ p, p < nc ∧ x2 = nI p
    · obtain ⟨p, hp, rfl⟩ := h1
      obtain ⟨q, hq, rfl⟩ := h2
      have e1 : f_P_may (nI p) (nI q) M = some (if len p < len q then 0 else 1, M) := by
        unfold f_P_may
        rw [pr_cc (cp_y y w hp).1, pr_cc (cp_y y w hq).1, pr_rd rfl (by omega) (by omega), pr_rd rfl (by omega) (by omega), y.2.2.2.2.2.1 p hp, y.2.2.2.2.2.1 q hq]
        split <;> rfl
      have e2 : f_M_may (nI p) (nI q) N = some (if len p < len q then 0 else 1, sc0 N 0) := by
        unfold f_M_may
        rw [pr_cc (ip_y m w hp), if_neg one0, pr_cc (ip_y m w hq), if_neg one0]
        unfold h_M_may_22
        rw [pr_cc (goes0 one0 one0 one0), if_neg one0, sc0_c (by decide), pr_rd rfl (by omega) (by omega), pr_rd rfl (by omega) (by omega), m.2.2.2.2.2.1 p hp, m.2.2.2.2.2.1 q hq]
        split <;> rfl
      exact ⟨0, _, M, _, _, Or.inl ⟨e1, rfl⟩, e2, sc0_0, fun _ => rfl, i.code 0⟩
    · obtain ⟨p, hp, rfl⟩ := h1
      refine ⟨nI (0 + 1), 0, M, 0, sc0 N 1, oc_no 0 1 rfl ?_, ?_, sc0_0, fun q => absurd q (by decide), i.code 1⟩
      · unfold x_P_may
        rw [(cp_y y w hp).2, xc_n, pr_cc (cp_y y w hp).1, (cp_n y w h2).2, xc_s]
      · unfold f_M_may
        rw [pr_cc (ip_y m w hp), if_neg one0, pr_cc (ip_n m w h2), if_pos rfl]
        unfold h_M_may_21 h_M_may_22
        rw [pr_cc (goes1 rfl), if_pos rfl]
  · refine ⟨nI (0 + 1), 0, M, 0, sc0 N 1, oc_no 0 1 rfl ?_, ?_, sc0_0, fun q => absurd q (by decide), i.code 1⟩
    · unfold x_P_may
      rw [(cp_n y w h1).2, xc_s]
    · unfold f_M_may
      rw [pr_cc (ip_n m w h1), if_pos rfl]
      unfold h_M_may_21 h_M_may_22
      rw [pr_cc (goes1 rfl), if_pos rfl]
theorem o_bound : op_bound Inv := by
  intro M N i
  obtain ⟨np, nl, nc, nw, len, tim, h, z, w, y, m, g, s⟩ := id i
  refine ⟨nI (bd tim h z np), M, sc0 N 0, ?_, ?_, i.code 0⟩
  · unfold f_P_bound
    rw [pr_cc (ev_countBlocking y w), bound_same w]
  · unfold f_M_bound
    rw [pr_st]
    exact pr_cc (em_boundAt (d := 0) (yM.stM w (stM.sc0 (k := 0)) m) w (by omega))
theorem o_proved : op_proved Inv := by
  intro M N i
  obtain ⟨np, nl, nc, nw, len, tim, h, z, w, y, m, g, s, pv, pl, s1, s2, s3, s4⟩ := id i
  cases s with
  | false =>
    refine ⟨nI (0 + 1), 0, M, 0, sc0 N 1, oc_no 0 2 rfl ?_, ?_, sc0_0, fun q => absurd q (by decide), i.code 1⟩
    · unfold x_P_proved
      rw [s1, if_pos (show bI false = 0 from rfl)]
    · unfold f_M_proved
      rw [s2, pr_cc (goes1 (show bI false = 0 from rfl)), if_pos rfl]
  | true =>
    obtain ⟨t1, t2⟩ := s3 rfl
    refine ⟨0, bI pv, M, bI pv, sc0 N 0, Or.inl ⟨?_, rfl⟩, ?_, sc0_0, fun _ => rfl, i.code 0⟩
    · unfold f_P_proved
      rw [s1, if_neg (by decide), t1, bI_bz]
    · unfold f_M_proved
      rw [s2, pr_cc (goes0 (by decide) one0 one0), if_neg one0, sc0_j (by decide), t2]
      cases pv <;> rfl
theorem o_moves : op_moves Inv := by
  intro M N i
  obtain ⟨np, nl, nc, nw, len, tim, h, z, w, y, m, g, s, pv, pl, s1, s2, s3, s4, s5, s6⟩ := id i
  cases pl with
  | false =>
    refine ⟨nI (0 + 1), 0, M, 0, sc0 N 1, oc_no 0 2 rfl ?_, ?_, sc0_0, fun q => absurd q (by decide), i.code 1⟩
    · unfold x_P_moves x_P_checkPlan
      rw [s4, if_pos (show bI false = 0 from rfl), xc_s]
    · unfold f_M_moves
      rw [s5, pr_cc (goes1 (show bI false = 0 from rfl)), if_pos rfl]
  | true =>
    obtain ⟨x, x1, x2, x3, x4⟩ := s6 rfl
    refine ⟨0, nI x.length, M, nI x.length, sc0 N 0, Or.inl ⟨?_, rfl⟩, ?_, sc0_0, fun _ => rfl, i.code 0⟩
    · unfold f_P_moves f_P_checkPlan
      rw [s4, if_neg (by decide)]
      show some (M 2 6, M) = _
      rw [x3.1]
    · unfold f_M_moves
      rw [s5, pr_cc (goes0 (by decide) one0 one0), if_neg one0, sc0_j (by decide), x4.2.1]
theorem o_move : op_move Inv := by
  intro x1 x2 M N i
  obtain ⟨np, nl, nc, nw, len, tim, h, z, w, y, m, g, s, pv, pl, s1, s2, s3, s4, s5, s6⟩ := id i
  by_cases hw : (0 : Int32) ≤ x2 ∧ x2 ≤ 1
  · cases pl with
    | false =>
      refine ⟨nI (1 + 1), 0, M, 0, sc0 N 2, oc_no 1 2 rfl ?_, ?_, sc0_0, fun q => absurd q (by decide), i.code 2⟩
      · unfold x_P_move x_P_checkPlan
        rw [pr_cc (wi_y hw), if_neg one0, s4, if_pos (show bI false = 0 from rfl), xc_s]
      · unfold f_M_move
        rw [pr_cc (mi_y hw), pr_cc (pr_in _ _ _ _), s5, pr_cc (goes2 one0 (show bI false = 0 from rfl)), if_pos rfl]
    | true =>
      obtain ⟨x, t1, t2, t3, t4⟩ := s6 rfl
      have c0 : f_P_checkPlan M = some (0, M) := by
        unfold f_P_checkPlan
        rw [s4, if_neg (by decide)]
      have c1 : x_P_checkPlan M = none := by
        unfold x_P_checkPlan
        rw [s4, if_neg (by decide)]
      by_cases hk : ∃ k, k < x.length ∧ x1 = nI k
      · obtain ⟨k, hk, rfl⟩ := hk
        have hin := (in_lt (x := nI k) (n := x.length) (by omega)).mpr ⟨k, hk, rfl⟩
        obtain ⟨q, hq, -⟩ := rl_at hk
        have hv := t3.2 k q hq
        have hv2 := t4.2.2 k q hq
        refine ⟨0, if x2 = 0 then nI q.1 else oI q.2.2, M, if x2 = 0 then nI q.1 else oI q.2.2, sc0 N 0, Or.inl ⟨?_, rfl⟩, ?_, sc0_0, fun _ => rfl, i.code 0⟩
        · unfold f_P_move
          rw [pr_cc (wi_y hw), if_neg one0, pr_cc c0, t3.1, pr_cc (wi_y hin), if_neg one0]
          split
          · rw [pr_rd rfl (by omega) (by omega), hv.1]
          · rw [pr_rd rfl (by omega) (by omega), hv.2.2]
        · unfold f_M_move
          rw [pr_cc (mi_y hw), t4.2.1, pr_cc (mi_y hin), s5, pr_cc (goes0 one0 (by decide) one0), if_neg one0, sc0_c (by decide), sc0_c (by decide)]
          split
          · rw [pr_rd rfl (by omega) (by omega), hv2.1]
          · rw [pr_rd rfl (by omega) (by omega), hv2.2]
      · have hin := fun q => hk ((in_lt (x := x1) (n := x.length) (by omega)).mp q)
        refine ⟨nI (2 + 1), 0, M, 0, sc0 N 3, oc_no 2 3 rfl ?_, ?_, sc0_0, fun q => absurd q (by decide), i.code 3⟩
        · unfold x_P_move
          rw [pr_cc (wi_y hw), if_neg one0, c1, xc_n, pr_cc c0, t3.1, pr_cc (wi_n hin), if_pos rfl]
        · unfold f_M_move
          rw [pr_cc (mi_y hw), t4.2.1, pr_cc (mi_n hin), s5, pr_cc (goes3 one0 (by decide) rfl), if_pos rfl]
  · refine ⟨nI (0 + 1), 0, M, 0, sc0 N 1, oc_no 0 1 rfl ?_, ?_, sc0_0, fun q => absurd q (by decide), i.code 1⟩
    · unfold x_P_move
      rw [pr_cc (wi_n hw), if_pos rfl]
    · unfold f_M_move
      rw [pr_cc (mi_n hw), pr_cc (pr_in _ _ _ _), pr_cc (goes1 rfl), if_pos rfl]
