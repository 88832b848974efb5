/-! THE PURE PART 19: run, wagon, want, load -/
theorem sumN_le1 {g : Nat → Bool} : ∀ n, sumN (fun q => bN (g q)) n ≤ n := by
  intro n
  induction n with
  | zero => exact Nat.le_refl _
  | succ n ih =>
    have e : sumN (fun q => bN (g q)) (n + 1) = sumN (fun q => bN (g q)) n + bN (g n) := rfl
    have : bN (g n) ≤ 1 := by unfold bN; split <;> omega
    omega
theorem o_run : op_run Inv := by
  intro x1 M N i
  obtain ⟨np, nl, nc, nw, len, tim, h, z, w, y, m, g, s⟩ := id i
  have hn := w.2.2.2.1
  have hl5 := w.2.2.1
  have hb : bd tim h z np ≤ 10 := by
    rw [← bound_same w]
    have := sumN_le1 (g := bpB tim h z) nc
    omega
  by_cases hx : (0 : Int32) ≤ x1 ∧ x1 ≤ 100000
  · obtain ⟨nd, -, hnd, rfl⟩ := (in_rng (a := 0) (b := 100000) (by omega) (by omega)).mp hx
    -- the class
    obtain ⟨M2, e2, s2, z0, z2, z6⟩ := ev_forget M
    obtain ⟨M3, e3⟩ : ∃ M3, M3 = kb_up M2 2 (upd (M2 2) 4 (nI nd)) := ⟨_, rfl⟩
    obtain ⟨M4, e4⟩ : ∃ M4, M4 = kb_up M3 2 (upd (M3 2) 3 (0 : Int32)) := ⟨_, rfl⟩
    have t4 : ∀ c, c ≠ 2 → M4 c = M c := fun c hc => by rw [e4, pr_upN hc, e3, pr_upN hc, s2 c (fun q => hc (by simpa using q))]
    have y4 : yC np nl nc len tim h z M4 := y.stays (fun c hc => t4 c (by omega))
    have u4 : ∀ j, j ≠ 3 → j ≠ 4 → M4 2 j = M2 2 j := fun j a b => by rw [e4, pr_upS, pr_uN a, e3, pr_upS, pr_uN b]
    obtain ⟨rr, M8, f8, k8, y8, d8, r8⟩ := ev_rounds w (13 - bd tim h z np) kb_F nd M4 (by unfold kb_F; omega) (by omega) hnd y4 ⟨by rw [u4 6 (by decide) (by decide), z6]; rfl, fun j q hq => by cases hq⟩ (by rw [e4, pr_upS, pr_uS]; rfl) (by rw [e4, pr_upS, pr_uN (by decide), e3, pr_upS, pr_uS]) (by rw [u4 2 (by decide) (by decide)]; exact z2)
    rw [show 13 - (13 - bd tim h z np) = bd tim h z np by omega] at f8
    have eC : f_P_run (nI nd) M = some (rr, M8) := by
      unfold f_P_run
      rw [pr_cc (wi_y hx), if_neg one0]
      unfold f_S_findBest
      rw [pr_cc e2, pr_st, pr_st, ← e3, ← e4, pr_cc (ev_countBlocking y4 w), bound_same w, f8]
      rfl
    have ok : ∀ x, (rnF np nl nc len tim h z (13 - bd tim h z np) nd).1 = some x → okB x := by
      intro x hx
      rcases r8 with ⟨x', a1, a2, a3, a4, a5⟩ | ⟨c, a1, a2⟩
      · rw [a1] at hx
        cases hx
        exact ⟨a3, mvV_ok x (h, z) w.2.1 a4⟩
      · rw [a1] at hx; cases hx
    -- the reference
    obtain ⟨N3, g3⟩ : ∃ N3, N3 = kb_up (sc0 N 0) 0 (upd (sc0 N 0 0) 15 (1 : Int32)) := ⟨_, rfl⟩
    obtain ⟨N4, g4⟩ : ∃ N4, N4 = kb_up N3 0 (upd (N3 0) 17 (0 : Int32)) := ⟨_, rfl⟩
    obtain ⟨N5, g5⟩ : ∃ N5, N5 = kb_up N4 0 (upd (N4 0) 16 (0 : Int32)) := ⟨_, rfl⟩
    have q5 : ∀ c, c ≠ 0 → N5 c = N c := fun c hc => by rw [g5, pr_upN hc, g4, pr_upN hc, g3, pr_upN hc, sc0_c hc]
    have v5 : ∀ j, j ≠ 0 → j ≠ 15 → j ≠ 16 → j ≠ 17 → N5 0 j = N 0 j := fun j a b c d => by rw [g5, pr_upS, pr_uN c, g4, pr_upS, pr_uN d, g3, pr_upS, pr_uN b, sc0_j a]
    have m5 : yM np nl nc len tim 0 h z N5 := yM.stM w ⟨fun j hj => v5 j (by omega) (by omega) (by omega) (by omega), fun _ _ => by rw [q5 5 (by decide)], fun _ _ => by rw [q5 6 (by decide)], by rw [q5 7 (by decide)], q5 2 (by decide), q5 3 (by decide)⟩ m
    obtain ⟨rr', N8, f9, k9, r9⟩ := em_rounds (len := len) w (13 - bd tim h z np) kb_F nd N5 (by unfold kb_F; omega) (by omega) hnd m5 (by rw [g5, pr_upS, pr_uN (by decide), g4, pr_upS, pr_uS]) ok
    rw [show 13 - (13 - bd tim h z np) = bd tim h z np by omega] at f9
    have eM : f_M_run (nI nd) N = some (rr', N8) := by
      unfold f_M_run
      rw [pr_cc (mi_y hx), pr_cc (goes0 one0 one0 one0), if_neg one0, pr_st, pr_st, pr_st, ← g3, ← g4, ← g5]
      have hb0 : f_M_boundAt (0 : Int32) N5 = some (nI (bd tim h z np), N5) := em_boundAt (d := 0) m5 w (by omega)
      rw [pr_cc hb0, f9]
    have m8 : yM np nl nc len tim 0 h z N8 := yM.frR w k9 m5
    have w8 : wg nc nw M8 N8 := g.stays (fun c hc => by rw [k8 c (by simp; omega), t4 c (by omega)]) (by rw [k9.2.1 19 (by decide) (by decide) (by decide), v5 19 (by decide) (by decide) (by decide) (by decide)]) (fun c hc => by rw [k9.1 c (by simp; omega), q5 c (by omega)])
    have n15 : N8 0 15 = 1 := by rw [k9.2.1 15 (by decide) (by decide) (by decide), g5, pr_upS, pr_uN (by decide), g4, pr_upS, pr_uN (by decide), g3, pr_upS, pr_uS]
    have n0 : N8 0 0 = 0 := by rw [k9.2.1 0 (by decide) (by decide) (by decide), g5, pr_upS, pr_uN (by decide), g4, pr_upS, pr_uN (by decide), g3, pr_upS, pr_uN (by decide)]; exact sc0_0
    have fin : rr = rr' ∧ sr np nl h z M8 N8 := by
      rcases r8 with ⟨x, a1, a2, a3, a4, a5, a6, a7⟩ | ⟨c, a1, a2, a3, a4⟩
      · rcases r9 with ⟨x', b1, b2, b3, b4⟩ | ⟨c, b1, b2⟩
        · rw [a1] at b1
          cases b1
          exact ⟨a2.trans b2.symm, true, true, true, d8, n15, fun _ => ⟨a7, b4⟩, a6, b3.1, fun _ => ⟨x, a3, a4, a5, b3⟩⟩
        · rw [a1] at b1; cases b1
      · rcases r9 with ⟨x', b1, b2, b3, b4⟩ | ⟨c', b1, b2, b3, b4⟩
        · rw [a1] at b1; cases b1
        · rw [a1] at b1
          cases b1
          exact ⟨a2.trans b2.symm, true, !c, false, d8, n15, fun _ => ⟨a4, b4⟩, a3, b3, fun q => by cases q⟩
    exact ⟨0, rr, M8, rr', N8, Or.inl ⟨eC, rfl⟩, eM, n0, fun _ => fin.1, np, nl, nc, nw, len, tim, h, z, w, y8, m8, w8, fin.2⟩
  · refine ⟨nI (0 + 1), 0, M, 0, sc0 N 1, oc_no 0 3 rfl ?_, ?_, sc0_0, fun q => absurd q (by decide), i.code 1⟩
    · unfold x_P_run
      rw [pr_cc (wi_n hx), if_pos rfl]
    · unfold f_M_run
      rw [pr_cc (mi_n hx), pr_cc (goes1 rfl), if_pos rfl]
theorem o_wagon : op_wagon Inv := by
  intro x1 M N i
  obtain ⟨np, nl, nc, nw, len, tim, h, z, w, y, m, g, s⟩ := id i
  obtain ⟨g1, g2, g3, g4, g5, g6⟩ := id g
  by_cases hx : (1 : Int32) ≤ x1 ∧ x1 ≤ 5000
  · by_cases h4 : nw < 4
    · obtain ⟨M1, e1⟩ : ∃ M1, M1 = kb_up M 3 (upd (M 3) 0 (nI nw + 1)) := ⟨_, rfl⟩
      obtain ⟨M2, e2⟩ : ∃ M2, M2 = kb_up M1 14 (upd (M1 14) nw x1) := ⟨_, rfl⟩
      obtain ⟨M3, e3⟩ : ∃ M3, M3 = kb_up M2 15 (upd (M2 15) nw (0 : Int32)) := ⟨_, rfl⟩
      obtain ⟨N1, k1⟩ : ∃ N1, N1 = kb_up (sc0 N 0) 12 (upd (sc0 N 0 12) nw x1) := ⟨_, rfl⟩
      obtain ⟨N2, k2⟩ : ∃ N2, N2 = kb_up N1 13 (upd (N1 13) nw (0 : Int32)) := ⟨_, rfl⟩
      obtain ⟨N3, k3⟩ : ∃ N3, N3 = kb_up N2 0 (upd (N2 0) 19 (nI nw + 1)) := ⟨_, rfl⟩
      have t3 : ∀ c, c ≠ 3 → c ≠ 14 → c ≠ 15 → M3 c = M c := fun c a b d => by rw [e3, pr_upN d, e2, pr_upN b, e1, pr_upN a]
      have t14 : M3 14 = upd (M 14) nw x1 := by rw [e3, pr_upN (by decide), e2, pr_upS, e1, pr_upN (by decide)]
      have t15 : M3 15 = upd (M 15) nw 0 := by rw [e3, pr_upS, e2, pr_upN (by decide), e1, pr_upN (by decide)]
      have q3 : ∀ c, c ≠ 0 → c ≠ 12 → c ≠ 13 → N3 c = N c := fun c a b d => by rw [k3, pr_upN a, k2, pr_upN d, k1, pr_upN b, sc0_c a]
      have q12 : N3 12 = upd (N 12) nw x1 := by rw [k3, pr_upN (by decide), k2, pr_upN (by decide), k1, pr_upS, sc0_c (by decide)]
      have q13 : N3 13 = upd (N 13) nw 0 := by rw [k3, pr_upN (by decide), k2, pr_upS, k1, pr_upN (by decide), sc0_c (by decide)]
      have q0 : ∀ j, j ≠ 19 → N3 0 j = sc0 N 0 0 j := fun j hj => by rw [k3, pr_upS, pr_uN hj, k2, pr_upN (by decide), k1, pr_upN (by decide)]
      have q19 : N3 0 19 = nI (nw + 1) := by rw [k3, pr_upS, pr_uS]; exact nI_1 nw
      have n2 : N2 0 19 = nI nw := by rw [k2, pr_upN (by decide), k1, pr_upN (by decide), sc0_j (by decide)]; exact g2
      have n1 : N1 0 19 = nI nw := by rw [k1, pr_upN (by decide), sc0_j (by decide)]; exact g2
      refine ⟨0, nI nw, M3, nI nw, N3, Or.inl ⟨?_, rfl⟩, ?_, ?_, fun _ => rfl, ?_⟩
      · unfold f_P_wagon
        rw [pr_cc (wi_y hx), if_neg one0, g1, if_pos (show nI nw < 4 from nI_lt (b := 4) h4 (by decide))]
        unfold f_W_add
        rw [pr_st, g1, ← e1, pr_wr rfl (by omega) (by omega), ← e2, pr_wr rfl (by omega) (by omega), ← e3]
        rfl
      · unfold f_M_wagon
        rw [pr_cc (mi_y hx), g2, if_neg (show ¬ (4 : Int32) ≤ nI nw from nI_ge (b := 4) h4 (by decide))]
        unfold h_M_wagon_22
        rw [pr_cc (goes0 one0 one0 one0), if_neg one0, pr_wr (m := nw) (by rw [sc0_j (by decide)]; exact g2) (by omega) (by omega), ← k1, pr_wr (m := nw) n1 (by omega) (by omega), ← k2, pr_st, n2, ← k3, q19]
        rw [nI_pred]
      · rw [q0 0 (by decide), sc0_0]
      · refine ⟨np, nl, nc, nw + 1, len, tim, h, z, w, y.stays (fun c hc => t3 c (by omega) (by omega) (by omega)), yM.stM w ⟨fun j hj => ?_, fun j _ => ?_, fun j _ => ?_, ?_, q3 2 (by decide) (by decide) (by decide), q3 3 (by decide) (by decide) (by decide)⟩ m, ⟨?_, q19, by omega, fun j hj => ?_, fun p hp => ?_, fun p hp hp2 => ?_⟩, s.stays (fun c hc => t3 c (by omega) (by omega) (by omega)) (fun j hj => ?_) (fun c hc => q3 c (by omega) (by omega) (by omega))⟩
        · rw [q0 j (by omega), sc0_j (by omega)]
        · rw [q3 5 (by decide) (by decide) (by decide)]
        · rw [q3 6 (by decide) (by decide) (by decide)]
        · rw [q3 7 (by decide) (by decide) (by decide)]
        · rw [e3, pr_upN (by decide), e2, pr_upN (by decide), e1, pr_upS, pr_uS]; exact nI_1 nw
        · rw [t14, t15, q12, q13]
          by_cases e : j = nw
          · subst e
            rw [pr_uS, pr_uS, pr_uS, pr_uS]
            exact ⟨rfl, rfl⟩
          · rw [pr_uN e, pr_uN e, pr_uN e, pr_uN e]
            exact g4 j (by omega)
        · rw [t3 6 (by decide) (by decide) (by decide), t3 16 (by decide) (by decide) (by decide), q3 1 (by decide) (by decide) (by decide), q3 4 (by decide) (by decide) (by decide)]
          exact g5 p hp
        · rw [t3 16 (by decide) (by decide) (by decide)]
          exact g6 p hp hp2
        · rw [q0 j (by omega), sc0_j (by omega)]
    · refine ⟨nI (1 + 1), 0, M, 0, sc0 N 2, oc_no 1 4 rfl ?_, ?_, sc0_0, fun q => absurd q (by decide), i.code 2⟩
      · unfold x_P_wagon
        rw [pr_cc (wi_y hx), if_neg one0, g1, if_neg (show ¬ nI nw < 4 from nI_nlt (b := 4) (by omega) (by omega))]
      · unfold f_M_wagon
        rw [pr_cc (mi_y hx), g2, if_pos (show (4 : Int32) ≤ nI nw from nI_le (a := 4) (by omega) (by omega))]
        unfold h_M_wagon_22
        rw [pr_cc (goes2 one0 rfl), if_pos rfl]
  · refine ⟨nI (0 + 1), 0, M, 0, sc0 N 1, oc_no 0 3 rfl ?_, ?_, sc0_0, fun q => absurd q (by decide), i.code 1⟩
    · unfold x_P_wagon
      rw [pr_cc (wi_n hx), if_pos rfl]
    · unfold f_M_wagon
      rw [pr_cc (mi_n hx)]
      unfold h_M_wagon_22
      rw [pr_cc (goes1 rfl), if_pos rfl, pr_cc (goes1 rfl), if_pos rfl]
      split <;> rfl
