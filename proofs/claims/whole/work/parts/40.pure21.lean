/-! THE PURE PART 21: piles, put -/
theorem ev_clearY : ∀ (c f i : Nat) (M : Nat → Nat → Int32), c < f → i + c = 4 → (∀ j, j < i → M 4 j = 0) → ∃ M', h_Y_clear_17 f (nI i) M = some (0, M') ∧ stay [4] M M' ∧ ∀ j, j < 4 → M' 4 j = 0 := by
  intro c
  induction c with
  | zero =>
    intro f i M hf hi hz
    obtain ⟨f, rfl⟩ : ∃ g, f = g + 1 := ⟨f - 1, by omega⟩
    obtain rfl : i = 4 := by omega
    rw [h_Y_clear_17, if_pos (by decide)]
    exact ⟨M, rfl, fun _ _ => rfl, hz⟩
  | succ c ih =>
    intro f i M hf hi hz
    obtain ⟨f, rfl⟩ : ∃ g, f = g + 1 := ⟨f - 1, by omega⟩
    rw [h_Y_clear_17, if_neg (show ¬ (4 : Int32) ≤ nI i from nI_ge (b := 4) (by omega) (by decide)), pr_wr rfl (by omega) (by omega), show nI i + 1 = nI (i + 1) from nI_1 i]
    obtain ⟨M', f1, s1, z1⟩ := ih f (i + 1) (kb_up M 4 (upd (M 4) i 0)) (by omega) (by omega) (fun j hj => by
      rw [pr_upS]
      by_cases e : j = i
      · subst e; rw [pr_uS]
      · rw [pr_uN e]; exact hz j (by omega))
    exact ⟨M', f1, fun c hc => by rw [s1 c hc, pr_upN (fun q => hc (by simp [q]))], z1⟩
theorem ev_clearW : ∀ (c f i : Nat) (M : Nat → Nat → Int32), c < f → i + c = 10 → (∀ j, j < i → M 16 j = -1) → ∃ M', h_W_clear_7 f (nI i) M = some (0, M') ∧ stay [16] M M' ∧ ∀ j, j < 10 → M' 16 j = -1 := by
  intro c
  induction c with
  | zero =>
    intro f i M hf hi hz
    obtain ⟨f, rfl⟩ : ∃ g, f = g + 1 := ⟨f - 1, by omega⟩
    obtain rfl : i = 10 := by omega
    rw [h_W_clear_7, if_pos (by decide)]
    exact ⟨M, rfl, fun _ _ => rfl, hz⟩
  | succ c ih =>
    intro f i M hf hi hz
    obtain ⟨f, rfl⟩ : ∃ g, f = g + 1 := ⟨f - 1, by omega⟩
    rw [h_W_clear_7, if_neg (show ¬ (10 : Int32) ≤ nI i from nI_ge (b := 10) (by omega) (by decide)), pr_wr rfl (by omega) (by omega), show nI i + 1 = nI (i + 1) from nI_1 i]
    obtain ⟨M', f1, s1, z1⟩ := ih f (i + 1) (kb_up M 16 (upd (M 16) i (-1))) (by omega) (by omega) (fun j hj => by
      rw [pr_upS]
      by_cases e : j = i
      · subst e; rw [pr_uS]
      · rw [pr_uN e]; exact hz j (by omega))
    exact ⟨M', f1, fun c hc => by rw [s1 c hc, pr_upN (fun q => hc (by simp [q]))], z1⟩
theorem em_clear : ∀ (c f i : Nat) (N : Nat → Nat → Int32), c < f → i + c = 4 → (∀ j, j < i → N 6 j = 0) → ∃ N', h_M_piles_62 f (nI i) N = some (0, N') ∧ stay [0, 6] N N' ∧ (∀ j, j < 4 → N' 6 j = 0) ∧ N' 0 15 = 0 ∧ N' 0 17 = 0 ∧ ∀ j, j ≠ 15 → j ≠ 17 → N' 0 j = N 0 j := by
  intro c
  induction c with
  | zero =>
    intro f i N hf hi hz
    obtain ⟨f, rfl⟩ : ∃ g, f = g + 1 := ⟨f - 1, by omega⟩
    obtain rfl : i = 4 := by omega
    obtain ⟨N', f2, s2, n15, n17, nj⟩ := em_changed N
    rw [h_M_piles_62, if_pos (by decide), pr_cc f2]
    exact ⟨N', rfl, fun c hc => s2 c (fun q => hc (by simp at q ⊢; omega)), fun j hj => by rw [s2 6 (by decide)]; exact hz j hj, n15, n17, nj⟩
  | succ c ih =>
    intro f i N hf hi hz
    obtain ⟨f, rfl⟩ : ∃ g, f = g + 1 := ⟨f - 1, by omega⟩
    rw [h_M_piles_62, if_neg (show ¬ (4 : Int32) ≤ nI i from nI_ge (b := 4) (by omega) (by decide)), pr_wr rfl (by omega) (by omega), show nI i + 1 = nI (i + 1) from nI_1 i]
    obtain ⟨N', f1, s1, z1, n15, n17, nj⟩ := ih f (i + 1) (kb_up N 6 (upd (N 6) i 0)) (by omega) (by omega) (fun j hj => by
      rw [pr_upS]
      by_cases e : j = i
      · subst e; rw [pr_uS]
      · rw [pr_uN e]; exact hz j (by omega))
    exact ⟨N', f1, fun c hc => by rw [s1 c hc, pr_upN (fun q => hc (by simp [q]))], z1, n15, n17, fun j a b => by rw [nj j a b, pr_upN (by decide)]⟩
/-- an empty yard -/
theorem yWF.empty {np nl : Nat} (h1 : 1 ≤ np) (h4 : np ≤ 4) (h5 : nl ≤ 5) : yWF np nl 0 (fun _ => 0) (fun _ => 0) (fun _ _ => 0) :=
  ⟨h1, h4, h5, by omega, fun _ => Nat.zero_le _, fun _ _ => rfl, fun _ _ q => absurd q (Nat.not_lt_zero _), fun _ _ _ _ q => absurd q (Nat.not_lt_zero _), fun _ q => absurd q (Nat.not_lt_zero _)⟩
theorem yC.empty {np nl : Nat} {M : Nat → Nat → Int32} (e0 : M 1 0 = nI np) (e1 : M 1 1 = nI nl) (e2 : M 1 2 = 0) (e4 : ∀ k, k < 4 → M 4 k = 0) : yC np nl 0 (fun _ => 0) (fun _ => 0) (fun _ => 0) (fun _ _ => 0) M :=
  ⟨e0, e1, e2, e4, fun _ _ _ q => absurd q (Nat.not_lt_zero _), fun _ q => absurd q (Nat.not_lt_zero _), fun _ q => absurd q (Nat.not_lt_zero _), fun _ _ q => absurd q (Nat.not_lt_zero _), fun _ q => absurd q (Nat.not_lt_zero _)⟩
theorem yM.empty {np nl : Nat} {N : Nat → Nat → Int32} (e0 : N 0 1 = nI np) (e1 : N 0 2 = nI nl) (e2 : N 0 3 = 0) (e4 : ∀ k, k < 4 → N 6 k = 0) (e7 : N 7 0 = 0) : yM np nl 0 (fun _ => 0) (fun _ => 0) 0 (fun _ => 0) (fun _ _ => 0) N :=
  ⟨e0, e1, e2, fun k hk => by rw [show 4 * 0 + k = k by omega]; exact e4 k hk, fun _ _ _ q => absurd q (Nat.not_lt_zero _), fun _ q => absurd q (Nat.not_lt_zero _), fun _ q => absurd q (Nat.not_lt_zero _), 0, by decide, e7, fun _ q => absurd q (Nat.not_lt_zero _)⟩
theorem o_piles : op_piles Inv := by
  intro x1 x2 M N i
  by_cases h1 : (1 : Int32) ≤ x1 ∧ x1 ≤ 4
  · by_cases h2 : (1 : Int32) ≤ x2 ∧ x2 ≤ 5
    · obtain ⟨np, hp1, hp4, rfl⟩ := (in_rng (a := 1) (b := 4) (by omega) (by omega)).mp h1
      obtain ⟨nl, hl1, hl5, rfl⟩ := (in_rng (a := 1) (b := 5) (by omega) (by omega)).mp h2
      obtain ⟨M1, e1⟩ : ∃ M1, M1 = kb_up M 1 (upd (M 1) 0 (nI np)) := ⟨_, rfl⟩
      obtain ⟨M2, e2⟩ : ∃ M2, M2 = kb_up M1 1 (upd (M1 1) 1 (nI nl)) := ⟨_, rfl⟩
      obtain ⟨M3, e3⟩ : ∃ M3, M3 = kb_up M2 1 (upd (M2 1) 2 (0 : Int32)) := ⟨_, rfl⟩
      obtain ⟨M4, f4, s4, z4⟩ := ev_clearY 4 kb_F 0 M3 (by unfold kb_F; omega) (by omega) (fun j hj => absurd hj (by omega))
      obtain ⟨M5, e5⟩ : ∃ M5, M5 = kb_up M4 3 (upd (M4 3) 0 (0 : Int32)) := ⟨_, rfl⟩
      obtain ⟨M6, f6, s6, z6⟩ := ev_clearW 10 kb_F 0 M5 (by unfold kb_F; omega) (by omega) (fun j hj => absurd hj (by omega))
      obtain ⟨M7, f7, s7, y0, y2, -⟩ := ev_forget M6
      have c1 : M7 1 = M3 1 := by rw [s7 1 (by decide), s6 1 (by decide), e5, pr_upN (by decide), s4 1 (by decide)]
      have c4 : M7 4 = M4 4 := by rw [s7 4 (by decide), s6 4 (by decide), e5, pr_upN (by decide)]
      obtain ⟨N1, k1⟩ : ∃ N1, N1 = kb_up (sc0 N 0) 0 (upd (sc0 N 0 0) 1 (nI np)) := ⟨_, rfl⟩
      obtain ⟨N2, k2⟩ : ∃ N2, N2 = kb_up N1 0 (upd (N1 0) 2 (nI nl)) := ⟨_, rfl⟩
      obtain ⟨N3, k3⟩ : ∃ N3, N3 = kb_up N2 0 (upd (N2 0) 3 (0 : Int32)) := ⟨_, rfl⟩
      obtain ⟨N4, k4⟩ : ∃ N4, N4 = kb_up N3 0 (upd (N3 0) 19 (0 : Int32)) := ⟨_, rfl⟩
      obtain ⟨N5, k5⟩ : ∃ N5, N5 = kb_up N4 7 (upd (N4 7) 0 (0 : Int32)) := ⟨_, rfl⟩
      obtain ⟨N6, g6, t6, w6, n15, n17, nj⟩ := em_clear 4 kb_F 0 N5 (by unfold kb_F; omega) (by omega) (fun j hj => absurd hj (by omega))
      have q0 : ∀ j, j ≠ 15 → j ≠ 17 → N6 0 j = N4 0 j := fun j a b => by rw [nj j a b, k5, pr_upN (by decide)]
      refine ⟨0, 0, M7, 0, N6, Or.inl ⟨?_, rfl⟩, ?_, ?_, fun _ => trivial, np, nl, 0, 0, _, _, _, _, yWF.empty hp1 hp4 hl5, yC.empty ?_ ?_ ?_ ?_, yM.empty ?_ ?_ ?_ w6 ?_, ⟨?_, ?_, by omega, fun j hj => absurd hj (by omega), fun p hp => absurd hp (by omega), fun p _ hp => ?_⟩, sr.none y0 y2 n15 n17⟩
      · unfold f_P_piles
        rw [pr_cc (wi_y h1), if_neg one0, pr_cc (wi_y h2), if_neg one0]
        unfold f_Y_clear
        rw [pr_st, pr_st, pr_st, ← e1, ← e2, ← e3]
        have f4' : h_Y_clear_17 kb_F (0 : Int32) M3 = some (0, M4) := f4
        rw [pr_cc f4']
        unfold f_W_clear
        rw [pr_st, ← e5]
        have f6' : h_W_clear_7 kb_F (0 : Int32) M5 = some (0, M6) := f6
        rw [pr_cc f6', pr_cc f7]
      · unfold f_M_piles
        rw [pr_cc (mi_y h1), if_neg one0, pr_cc (mi_y h2), if_neg one0]
        unfold h_M_piles_24
        rw [pr_cc (goes0 one0 one0 one0), if_neg one0, pr_st, pr_st, pr_st, pr_st, ← k1, ← k2, ← k3, ← k4, pr_wr (show (0 : Int32) = nI 0 from rfl) (by omega) (by omega), ← k5]
        exact g6
      · rw [q0 0 (by decide) (by decide), k4, pr_upS, pr_uN (by decide), k3, pr_upS, pr_uN (by decide), k2, pr_upS, pr_uN (by decide), k1, pr_upS, pr_uN (by decide), sc0_0]
      · rw [c1, e3, pr_upS, pr_uN (by decide), e2, pr_upS, pr_uN (by decide), e1, pr_upS, pr_uS]
      · rw [c1, e3, pr_upS, pr_uN (by decide), e2, pr_upS, pr_uS]
      · rw [c1, e3, pr_upS, pr_uS]
      · intro k hk
        rw [c4]
        exact z4 k hk
      · rw [q0 1 (by decide) (by decide), k4, pr_upS, pr_uN (by decide), k3, pr_upS, pr_uN (by decide), k2, pr_upS, pr_uN (by decide), k1, pr_upS, pr_uS]
      · rw [q0 2 (by decide) (by decide), k4, pr_upS, pr_uN (by decide), k3, pr_upS, pr_uN (by decide), k2, pr_upS, pr_uS]
      · rw [q0 3 (by decide) (by decide), k4, pr_upS, pr_uN (by decide), k3, pr_upS, pr_uS]
      · rw [t6 7 (by decide), k5, pr_upS, pr_uS]
      · rw [s7 3 (by decide), s6 3 (by decide), e5, pr_upS, pr_uS]; rfl
      · rw [q0 19 (by decide) (by decide), k4, pr_upS, pr_uS]; rfl
      · rw [s7 16 (by decide)]
        exact z6 p hp
    · refine ⟨nI (0 + 1), 0, M, 0, sc0 N 1, oc_no 0 3 rfl ?_, ?_, sc0_0, fun q => absurd q (by decide), i.code 1⟩
      · unfold x_P_piles
        rw [pr_cc (wi_y h1), if_neg one0, pr_cc (wi_n h2), if_pos rfl]
      · unfold f_M_piles
        rw [pr_cc (mi_y h1), if_neg one0, pr_cc (mi_n h2), if_pos rfl]
        unfold h_M_piles_23 h_M_piles_24
        rw [pr_cc (goes1 rfl), if_pos rfl]
  · refine ⟨nI (0 + 1), 0, M, 0, sc0 N 1, oc_no 0 3 rfl ?_, ?_, sc0_0, fun q => absurd q (by decide), i.code 1⟩
    · unfold x_P_piles
      rw [pr_cc (wi_n h1), if_pos rfl]
    · unfold f_M_piles
      rw [pr_cc (mi_n h1), if_pos rfl]
      unfold h_M_piles_23 h_M_piles_24
      rw [pr_cc (goes1 rfl), if_pos rfl]
/-- layOn reads nothing of where the piece was -/
theorem layOn_ind {M : Nat → Nat → Int32} {p k v : Nat} {a b : Int32} (hp : p < 10) (hk : k < 4) (hv : M 4 k = nI v) (h5 : v < 5) : f_Y_layOn (nI p) (nI k) (kb_up (kb_up M 9 (upd (M 9) p a)) 10 (upd (M 10) p b)) = f_Y_layOn (nI p) (nI k) M := by
  unfold f_Y_layOn
  have e5 : nI k * (5 : Int32) + nI v = nI (5 * k + v) := by
    rw [show (5 : Int32) = nI 5 from rfl, pk_mul, nI_add, Nat.mul_comm]
  have n5 : ¬ (5 : Int32) ≤ nI v := nI_ge (b := 5) h5 (by decide)
  rw [pr_rd rfl hk (by omega), pr_rd rfl hk (by omega), pr_upN (by decide), pr_upN (by decide), hv, if_neg n5, if_neg n5]
  rw [pr_wr e5 (by omega) (by omega), pr_wr rfl hk (by omega), pr_wr rfl hp (by omega), pr_wr rfl hp (by omega)]
  rw [pr_wr e5 (by omega) (by omega), pr_wr rfl hk (by omega), pr_wr rfl hp (by omega), pr_wr rfl hp (by omega)]
  have uu : ∀ (f : Nat → Int32) (x y : Int32), upd (upd f p x) p y = upd f p y := by
    intro f x y
    funext j
    by_cases e : j = p
    · subst e; rw [pr_uS, pr_uS]
    · rw [pr_uN e, pr_uN e, pr_uN e]
  congr 2
  funext c
  by_cases c10 : c = 10
  · subst c10
    rw [pr_upS, pr_upS, pr_upN (by decide), pr_upN (by decide), pr_upN (by decide), pr_upS, uu, pr_upN (by decide), pr_upN (by decide), pr_upN (by decide)]
  · rw [pr_upN c10, pr_upN c10]
    by_cases c9 : c = 9
    · subst c9
      rw [pr_upS, pr_upS, pr_upN (by decide), pr_upN (by decide), pr_upN (by decide), pr_upS, uu, pr_upN (by decide), pr_upN (by decide)]
    · rw [pr_upN c9, pr_upN c9]
      by_cases c4 : c = 4
      · subst c4
        rw [pr_upS, pr_upS, pr_upN (by decide), pr_upN (by decide), pr_upN (by decide), pr_upN (by decide)]
      · rw [pr_upN c4, pr_upN c4]
        by_cases c5 : c = 5
        · subst c5
          rw [pr_upS, pr_upS, pr_upN (by decide), pr_upN (by decide)]
        · rw [pr_upN c5, pr_upN c5, pr_upN c10, pr_upN c9]
theorem o_put : op_put Inv := by
  intro x1 x2 x3 M N i
  obtain ⟨np, nl, nc, nw, len, tim, h, z, w, y, m, g, s⟩ := id i
  have hn := w.2.2.2.1
  have h4 := w.2.1
  have hl5 := w.2.2.1
  have hl := w.2.2.2.2.1
  have hz := w.2.2.2.2.2.2.1
  obtain ⟨g1, g2, g3, g4, g5, g6⟩ := id g
  by_cases h1 : ∃ k, k < np ∧ x1 = nI k
  · obtain ⟨k, hk, rfl⟩ := h1
    have hin := (in_lt (x := nI k) (n := np) (by omega)).mpr ⟨k, hk, rfl⟩
    have hp : f_Y_hasPile (nI k) M = some (1, M) := by
      unfold f_Y_hasPile
      rw [y.1, pr_cc (wi_y hin), bz_1]
    have m1 : f_M_in (nI k) 0 (N 0 1 - 1) N = some (1, N) := by rw [m.1]; exact mi_y hin
    have tk : f_M_takes (0 : Int32) (nI k) x3 N = some (bI (tkB nl len h z k x3), N) := em_takes (d := 0) m w (by omega) (by omega) x3
    -- the arguments are wrong
    have bad : h_M_put_41 (nI k) x2 x3 1 1 N = some (0, sc0 N 2) := by
      unfold h_M_put_41 h_M_put_42 h_M_put_70 h_M_put_71
      rw [if_neg one0, pr_cc tk, pr_cc (goes2 one0 rfl), if_pos rfl, pr_cc (goes2 one0 rfl), if_pos rfl]
      split
      · rfl
      · split <;> rfl
    by_cases h2 : (1 : Int32) ≤ x2 ∧ x2 ≤ 1000
    · by_cases h3 : (1 : Int32) ≤ x3 ∧ x3 ≤ 100
      · have eM : f_M_put (nI k) x2 x3 N = h_M_put_42 (nI k) x2 x3 1 1 1 N := by
          unfold f_M_put
          rw [pr_cc m1, pr_cc (mi_y h2), if_neg one0, pr_cc (mi_y h3), if_neg one0]
        by_cases hc : nc < 10
        · cases ht : tkB nl len h z k x3 with
          | false =>
            refine ⟨nI (2 + 1), 0, M, 0, sc0 N 3, oc_no 2 4 rfl ?_, ?_, sc0_0, fun q => absurd q (by decide), i.code 3⟩
            · unfold x_P_put
              rw [pr_cc hp, if_neg one0, pr_cc (wi_y h2), if_neg one0, pr_cc (wi_y h3), if_neg one0, y.2.2.1, if_neg (show ¬ (10 : Int32) ≤ nI nc from nI_ge (b := 10) hc (by decide)), pr_cc (ev_takes y w (by omega) x3), ht, if_pos (show bI false = 0 from rfl)]
            · rw [eM]
              unfold h_M_put_42
              rw [if_neg one0, m.2.2.1, if_neg (show ¬ (10 : Int32) ≤ nI nc from nI_ge (b := 10) hc (by decide)), pr_cc tk, ht, if_pos (show bI false = 0 from rfl)]
              unfold h_M_put_70 h_M_put_71
              rw [pr_cc (goes3 one0 one0 rfl), if_pos rfl]
          | true =>
            have hkl : h k < nl := by
              unfold tkB at ht
              rw [Bool.and_eq_true, decide_eq_true_eq] at ht
              exact ht.1
            -- the class
            obtain ⟨M1, f1, s1, z0, z2, -⟩ := ev_forget M
            have n1 : M1 1 2 = nI nc := by rw [s1 1 (by decide)]; exact y.2.2.1
            obtain ⟨M2, e2⟩ : ∃ M2, M2 = kb_up M1 1 (upd (M1 1) 2 (nI nc + 1)) := ⟨_, rfl⟩
            obtain ⟨M3, e3⟩ : ∃ M3, M3 = kb_up M2 6 (upd (M2 6) nc x2) := ⟨_, rfl⟩
            obtain ⟨M4, e4⟩ : ∃ M4, M4 = kb_up M3 7 (upd (M3 7) nc x3) := ⟨_, rfl⟩
            obtain ⟨M5, e5⟩ : ∃ M5, M5 = kb_up M4 8 (upd (M4 8) nc (-1 : Int32)) := ⟨_, rfl⟩
            obtain ⟨M6, e6⟩ : ∃ M6, M6 = kb_up (kb_up M5 9 (upd (M5 9) nc (-1 : Int32))) 10 (upd (M5 10) nc (-1 : Int32)) := ⟨_, rfl⟩
            have t5 : ∀ c, c ≠ 1 → c ≠ 2 → c ≠ 6 → c ≠ 7 → c ≠ 8 → M5 c = M c := fun c a b d e f => by rw [e5, pr_upN f, e4, pr_upN e, e3, pr_upN d, e2, pr_upN a, s1 c (by simpa using b)]
            have t6 : ∀ c, c ≠ 9 → c ≠ 10 → M6 c = M5 c := fun c a b => by rw [e6, pr_upN b, pr_upN a]
            have c1 : M6 1 = upd (M 1) 2 (nI nc + 1) := by rw [t6 1 (by decide) (by decide), e5, pr_upN (by decide), e4, pr_upN (by decide), e3, pr_upN (by decide), e2, pr_upS, s1 1 (by decide)]
            have c6 : M6 6 = upd (M 6) nc x2 := by rw [t6 6 (by decide) (by decide), e5, pr_upN (by decide), e4, pr_upN (by decide), e3, pr_upS, e2, pr_upN (by decide), s1 6 (by decide)]
            have c7 : M6 7 = upd (M 7) nc x3 := by rw [t6 7 (by decide) (by decide), e5, pr_upN (by decide), e4, pr_upS, e3, pr_upN (by decide), e2, pr_upN (by decide), s1 7 (by decide)]
            have c8 : M6 8 = upd (M 8) nc (-1) := by rw [t6 8 (by decide) (by decide), e5, pr_upS, e4, pr_upN (by decide), e3, pr_upN (by decide), e2, pr_upN (by decide), s1 8 (by decide)]
            have c9 : M6 9 = upd (M 9) nc (-1) := by rw [e6, pr_upN (by decide), pr_upS, t5 9 (by decide) (by decide) (by decide) (by decide) (by decide)]
            have c10 : M6 10 = upd (M 10) nc (-1) := by rw [e6, pr_upS, t5 10 (by decide) (by decide) (by decide) (by decide) (by decide)]
            have ct : ∀ c, c ≠ 1 → c ≠ 2 → c ≠ 6 → c ≠ 7 → c ≠ 8 → c ≠ 9 → c ≠ 10 → M6 c = M c := fun c a b d e f g h => by rw [t6 c g h, t5 c a b d e f]
            have gn : gone h z nc := fun j i hi e => by have := hz j i hi; omega
            have w6 : yWF np nl (nc + 1) (upd tim nc (-1)) h z := by
              obtain ⟨a1, a2, a3, a4, a5, a6, a7, a8, a9⟩ := w
              refine ⟨a1, a2, a3, by omega, a5, a6, fun j i hi => by have := a7 j i hi; omega, a8, fun p hp => ?_⟩
              by_cases e : p = nc
              · subst e; rw [pr_uS]; exact Or.inl rfl
              · rw [pr_uN e]; exact a9 p (by omega)
            have y6 : yC np nl (nc + 1) (upd len nc x3) (upd tim nc (-1)) h z M6 := by
              obtain ⟨a1, a2, a3, a4, a5, a6, a7, a8, a9⟩ := y
              refine ⟨?_, ?_, ?_, fun j hj => ?_, fun j i hj hi => ?_, fun p hp => ?_, fun p hp => ?_, fun j i hi => ?_, fun p hp gp => ?_⟩
              · rw [c1, pr_uN (by decide)]; exact a1
              · rw [c1, pr_uN (by decide)]; exact a2
              · rw [c1, pr_uS]; exact nI_1 nc
              · rw [ct 4 (by decide) (by decide) (by decide) (by decide) (by decide) (by decide) (by decide)]; exact a4 j hj
              · rw [ct 5 (by decide) (by decide) (by decide) (by decide) (by decide) (by decide) (by decide)]; exact a5 j i hj hi
              · rw [c7]
                by_cases e : p = nc
                · subst e; rw [pr_uS, pr_uS]
                · rw [pr_uN e, pr_uN e]; exact a6 p (by omega)
              · rw [c8]
                by_cases e : p = nc
                · subst e; rw [pr_uS, pr_uS]
                · rw [pr_uN e, pr_uN e]; exact a7 p (by omega)
              · rw [c9, c10, pr_uN (gn j i hi), pr_uN (gn j i hi)]; exact a8 j i hi
              · rw [c9, c10]
                by_cases e : p = nc
                · subst e; rw [pr_uS, pr_uS]; exact ⟨rfl, rfl⟩
                · rw [pr_uN e, pr_uN e]; exact a9 p (by omega) gp
            obtain ⟨M7, f7, y7, s7⟩ := ev_layOn y6 w6 hk hkl (show nc < nc + 1 by omega) gn
            have m54 : M5 4 k = nI (h k) := by rw [t5 4 (by decide) (by decide) (by decide) (by decide) (by decide)]; exact y.2.2.2.1 k (by omega)
            rw [e6, layOn_ind hc (show k < 4 by omega) m54 (by omega)] at f7
            have eC : f_P_put (nI k) x2 x3 M = some (nI nc, M7) := by
              unfold f_P_put
              rw [pr_cc hp, if_neg one0, pr_cc (wi_y h2), if_neg one0, pr_cc (wi_y h3), if_neg one0, y.2.2.1, if_neg (show ¬ (10 : Int32) ≤ nI nc from nI_ge (b := 10) hc (by decide)), pr_cc (ev_takes y w (by omega) x3), ht, if_neg (by decide), pr_cc f1]
              unfold f_Y_add
              rw [pr_st, n1, ← e2, pr_wr rfl hc (by omega), ← e3, pr_wr rfl hc (by omega), ← e4, pr_wr rfl hc (by omega), ← e5, pr_cc f7]
              rfl
            -- the reference
            obtain ⟨N1, k1⟩ : ∃ N1, N1 = kb_up (sc0 N 0) 1 (upd (sc0 N 0 1) nc x2) := ⟨_, rfl⟩
            obtain ⟨N2, k2⟩ : ∃ N2, N2 = kb_up N1 2 (upd (N1 2) nc x3) := ⟨_, rfl⟩
            obtain ⟨N3, k3⟩ : ∃ N3, N3 = kb_up N2 3 (upd (N2 3) nc (-1 : Int32)) := ⟨_, rfl⟩
            obtain ⟨N4, k4⟩ : ∃ N4, N4 = kb_up N3 4 (upd (N3 4) nc (-1 : Int32)) := ⟨_, rfl⟩
            obtain ⟨N5, k5⟩ : ∃ N5, N5 = kb_up N4 5 (upd (N4 5) (20 * 0 + 5 * k + h k) (nI nc)) := ⟨_, rfl⟩
            obtain ⟨N6, k6⟩ : ∃ N6, N6 = kb_up N5 6 (upd (N5 6) k (nI (h k) + 1)) := ⟨_, rfl⟩
            obtain ⟨N7, k7⟩ : ∃ N7, N7 = kb_up N6 0 (upd (N6 0) 3 (nI nc + 1)) := ⟨_, rfl⟩
            obtain ⟨N8, f8, s8, n15, n17, nj⟩ := em_changed N7
            have q4 : ∀ c, c ≠ 1 → c ≠ 2 → c ≠ 3 → c ≠ 4 → N4 c = sc0 N 0 c := fun c a b d e => by rw [k4, pr_upN e, k3, pr_upN d, k2, pr_upN b, k1, pr_upN a]
            have q8 : ∀ c, c ≠ 0 → c ≠ 5 → c ≠ 6 → N8 c = N4 c := fun c a b d => by rw [s8 c (by simpa using a), k7, pr_upN a, k6, pr_upN d, k5, pr_upN b]
            have d3 : sc0 N 0 0 3 = nI nc := by rw [sc0_j (by decide)]; exact m.2.2.1
            have d31 : N1 0 3 = nI nc := by rw [k1, pr_upN (by decide)]; exact d3
            have d32 : N2 0 3 = nI nc := by rw [k2, pr_upN (by decide)]; exact d31
            have d33 : N3 0 3 = nI nc := by rw [k3, pr_upN (by decide)]; exact d32
            have d34 : N4 0 3 = nI nc := by rw [k4, pr_upN (by decide)]; exact d33
            have d36 : N6 0 3 = nI nc := by rw [k6, pr_upN (by decide), k5, pr_upN (by decide)]; exact d34
            have r4 : N4 6 k = nI (h k) := by
              rw [q4 6 (by decide) (by decide) (by decide) (by decide), sc0_c (by decide)]
              have := m.2.2.2.1 k (by omega)
              rw [show 4 * 0 + k = k by omega] at this
              exact this
            have r5 : N5 6 k = nI (h k) := by rw [k5, pr_upN (by decide)]; exact r4
            have v0 : ∀ j, j ≠ 3 → j ≠ 15 → j ≠ 17 → N8 0 j = sc0 N 0 0 j := fun j a b d => by rw [nj j b d, k7, pr_upS, pr_uN a, k6, pr_upN (by decide), k5, pr_upN (by decide), q4 0 (by decide) (by decide) (by decide) (by decide)]
            have v3 : N8 0 3 = nI (nc + 1) := by rw [nj 3 (by decide) (by decide), k7, pr_upS, pr_uS]; exact nI_1 nc
            have v1 : N8 1 = upd (N 1) nc x2 := by rw [q8 1 (by decide) (by decide) (by decide), k4, pr_upN (by decide), k3, pr_upN (by decide), k2, pr_upN (by decide), k1, pr_upS, sc0_c (by decide)]
            have v2 : N8 2 = upd (N 2) nc x3 := by rw [q8 2 (by decide) (by decide) (by decide), k4, pr_upN (by decide), k3, pr_upN (by decide), k2, pr_upS, k1, pr_upN (by decide), sc0_c (by decide)]
            have v33 : N8 3 = upd (N 3) nc (-1) := by rw [q8 3 (by decide) (by decide) (by decide), k4, pr_upN (by decide), k3, pr_upS, k2, pr_upN (by decide), k1, pr_upN (by decide), sc0_c (by decide)]
            have v4 : N8 4 = upd (N 4) nc (-1) := by rw [q8 4 (by decide) (by decide) (by decide), k4, pr_upS, k3, pr_upN (by decide), k2, pr_upN (by decide), k1, pr_upN (by decide), sc0_c (by decide)]
            have v5 : N8 5 = upd (N 5) (20 * 0 + 5 * k + h k) (nI nc) := by rw [s8 5 (by decide), k7, pr_upN (by decide), k6, pr_upN (by decide), k5, pr_upS, q4 5 (by decide) (by decide) (by decide) (by decide), sc0_c (by decide)]
            have v6 : N8 6 = upd (N 6) k (nI (h k) + 1) := by rw [s8 6 (by decide), k7, pr_upN (by decide), k6, pr_upS, k5, pr_upN (by decide), q4 6 (by decide) (by decide) (by decide) (by decide), sc0_c (by decide)]
            have vt : ∀ c, c = 7 ∨ c = 9 ∨ c = 10 ∨ c = 12 ∨ c = 13 → N8 c = N c := fun c hc => by rw [q8 c (by omega) (by omega) (by omega), q4 c (by omega) (by omega) (by omega) (by omega), sc0_c (by omega)]
            have eR : f_M_put (nI k) x2 x3 N = some (nI nc, N8) := by
              rw [eM]
              unfold h_M_put_42
              rw [if_neg one0, m.2.2.1, if_neg (show ¬ (10 : Int32) ≤ nI nc from nI_ge (b := 10) hc (by decide)), pr_cc tk, ht, if_neg (by decide)]
              unfold h_M_put_71
              have ec : f_M_cell (0 : Int32) (nI k) (nI (h k)) N4 = some (nI (20 * 0 + 5 * k + h k), N4) := em_cell 0 k (h k) N4
              rw [pr_cc (goes0 one0 one0 one0), if_neg one0, d3, pr_wr rfl hc (by omega), ← k1, d31, pr_wr rfl hc (by omega), ← k2, d32, pr_wr rfl hc (by omega), ← k3, d33, pr_wr rfl hc (by omega), ← k4, pr_rd rfl (by omega) (by omega), r4, pr_cc ec, d34, pr_wr rfl (by omega) (by omega), ← k5, pr_rd rfl (by omega) (by omega), r5, pr_wr rfl (by omega) (by omega), ← k6, pr_st, d36, ← k7, pr_cc f8, v3, nI_pred]
            refine ⟨0, nI nc, M7, nI nc, N8, Or.inl ⟨eC, rfl⟩, eR, by rw [v0 0 (by decide) (by decide) (by decide), sc0_0], fun _ => rfl, np, nl, nc + 1, nw, upd len nc x3, upd tim nc (-1), _, _, w6.push hk hkl (by omega) gn, y7, ?_, ?_, sr.none ?_ ?_ n15 n17⟩
            · obtain ⟨a1, a2, a3, a4, a5, a6, a7, bb, b1, b2, b3⟩ := m
              refine ⟨?_, ?_, v3, fun j hj => ?_, fun j i hj hi => ?_, fun p hp => ?_, fun p hp => ?_, bb, Nat.lt_of_lt_of_le b1 (Nat.pow_le_pow_right (by omega) (by omega)), by rw [vt 7 (by simp)]; exact b2, fun p hp => ?_⟩
              · rw [v0 1 (by decide) (by decide) (by decide), sc0_j (by decide)]; exact a1
              · rw [v0 2 (by decide) (by decide) (by decide), sc0_j (by decide)]; exact a2
              · rw [v6, show 4 * 0 + j = j by omega]
                by_cases e : j = k
                · subst e; rw [pr_uS, hU_s]; exact nI_1 _
                · rw [pr_uN e, hU_n e]
                  have := a4 j hj
                  rw [show 4 * 0 + j = j by omega] at this
                  exact this
              · rw [v5]
                by_cases e : j = k ∧ i = h k
                · obtain ⟨rfl, rfl⟩ := e
                  rw [pr_uS, zU_s]
                · have hi2 : i < h j := by
                    by_cases e2 : j = k
                    · subst e2; rw [hU_s] at hi; have : i ≠ h j := fun q => e ⟨rfl, q⟩; omega
                    · rw [hU_n e2] at hi; exact hi
                  have := hl j
                  rw [pr_uN (fun q => e (by omega)), zU_n e]
                  exact a5 j i hj hi2
              · rw [v2]
                by_cases e : p = nc
                · subst e; rw [pr_uS, pr_uS]
                · rw [pr_uN e, pr_uN e]; exact a6 p (by omega)
              · rw [v33]
                by_cases e : p = nc
                · subst e; rw [pr_uS, pr_uS]
                · rw [pr_uN e, pr_uN e]; exact a7 p (by omega)
              · rw [lcB_push w6 hk hkl (show nc < nc + 1 by omega) gn p]
                by_cases e : p = nc
                · subst e
                  rw [decide_eq_true rfl, Bool.or_true]
                  exact Nat.testBit_lt_two_pow b1
                · rw [decide_eq_false e, Bool.or_false]; exact b3 p (by omega)
            · have u16 : M7 16 = M 16 := by rw [s7 16 (by decide), ct 16 (by decide) (by decide) (by decide) (by decide) (by decide) (by decide) (by decide)]
              refine ⟨?_, ?_, g3, fun j hj => ?_, fun p hp => ?_, fun p hp hp2 => ?_⟩
              · rw [s7 3 (by decide), ct 3 (by decide) (by decide) (by decide) (by decide) (by decide) (by decide) (by decide)]; exact g1
              · rw [v0 19 (by decide) (by decide) (by decide), sc0_j (by decide)]; exact g2
              · rw [s7 14 (by decide), ct 14 (by decide) (by decide) (by decide) (by decide) (by decide) (by decide) (by decide), s7 15 (by decide), ct 15 (by decide) (by decide) (by decide) (by decide) (by decide) (by decide) (by decide), vt 12 (by simp), vt 13 (by simp)]
                exact g4 j hj
              · rw [s7 6 (by decide), c6, u16, v1, v4]
                by_cases e : p = nc
                · subst e; rw [pr_uS, pr_uS, pr_uS]; exact ⟨rfl, g6 p (Nat.le_refl _) hc, Or.inl (g6 p (Nat.le_refl _) hc)⟩
                · rw [pr_uN e, pr_uN e, pr_uN e]; exact g5 p (by omega)
              · rw [u16]; exact g6 p (by omega) hp2
            · rw [s7 2 (by decide), t6 2 (by decide) (by decide), e5, pr_upN (by decide), e4, pr_upN (by decide), e3, pr_upN (by decide), e2, pr_upN (by decide)]; exact z0
            · rw [s7 2 (by decide), t6 2 (by decide) (by decide), e5, pr_upN (by decide), e4, pr_upN (by decide), e3, pr_upN (by decide), e2, pr_upN (by decide)]; exact z2
        · refine ⟨nI (2 + 1), 0, M, 0, sc0 N 3, oc_no 2 4 rfl ?_, ?_, sc0_0, fun q => absurd q (by decide), i.code 3⟩
          · unfold x_P_put
            rw [pr_cc hp, if_neg one0, pr_cc (wi_y h2), if_neg one0, pr_cc (wi_y h3), if_neg one0, y.2.2.1, if_pos (show (10 : Int32) ≤ nI nc from nI_le (a := 10) (by omega) (by omega))]
          · rw [eM]
            unfold h_M_put_42
            rw [if_neg one0, m.2.2.1, if_pos (show (10 : Int32) ≤ nI nc from nI_le (a := 10) (by omega) (by omega))]
            unfold h_M_put_70 h_M_put_71
            rw [pr_cc (goes3 one0 one0 rfl), if_pos rfl]
      · refine ⟨nI (1 + 1), 0, M, 0, sc0 N 2, oc_no 1 3 rfl ?_, ?_, sc0_0, fun q => absurd q (by decide), i.code 2⟩
        · unfold x_P_put
          rw [pr_cc hp, if_neg one0, pr_cc (wi_y h2), if_neg one0, pr_cc (wi_n h3), if_pos rfl]
        · unfold f_M_put
          rw [pr_cc m1, pr_cc (mi_y h2), if_neg one0, pr_cc (mi_n h3), if_pos rfl, bad]
    · refine ⟨nI (1 + 1), 0, M, 0, sc0 N 2, oc_no 1 3 rfl ?_, ?_, sc0_0, fun q => absurd q (by decide), i.code 2⟩
      · unfold x_P_put
        rw [pr_cc hp, if_neg one0, pr_cc (wi_n h2), if_pos rfl]
      · unfold f_M_put
        rw [pr_cc m1, pr_cc (mi_n h2), if_pos rfl, bad]
  · have hin := fun q => h1 ((in_lt (x := x1) (n := np) (by omega)).mp q)
    have hp : f_Y_hasPile x1 M = some (0, M) := by
      unfold f_Y_hasPile
      rw [y.1, pr_cc (wi_n hin), bz_0]
    have m1 : f_M_in x1 0 (N 0 1 - 1) N = some (0, N) := by rw [m.1]; exact mi_n hin
    have e42 : ∀ w0, h_M_put_42 x1 x2 x3 0 w0 0 N = some (0, sc0 N 1) := by
      intro w0
      unfold h_M_put_42 h_M_put_70 h_M_put_71
      rw [if_pos rfl, pr_cc (goes1 rfl), if_pos rfl]
    refine ⟨nI (0 + 1), 0, M, 0, sc0 N 1, oc_no 0 1 rfl ?_, ?_, sc0_0, fun q => absurd q (by decide), i.code 1⟩
    · unfold x_P_put
      rw [pr_cc hp, if_pos rfl]
    · unfold f_M_put
      rw [pr_cc m1]
      by_cases h2 : (1 : Int32) ≤ x2 ∧ x2 ≤ 1000
      · rw [pr_cc (mi_y h2), if_neg one0]
        by_cases h3 : (1 : Int32) ≤ x3 ∧ x3 ≤ 100
        · rw [pr_cc (mi_y h3), if_neg one0]
          exact e42 1
        · rw [pr_cc (mi_n h3), if_pos rfl]
          exact e42 0
      · rw [pr_cc (mi_n h2), if_pos rfl]
        exact e42 0
