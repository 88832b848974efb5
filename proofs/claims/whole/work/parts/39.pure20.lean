/-! THE PURE PART 20: want, load -/
theorem in_time {x : Int32} (hx : (-1 : Int32) ≤ x ∧ x ≤ 99) : x = -1 ∨ ∃ t, t < 100 ∧ x = nI t := by
  by_cases h0 : x < 0
  · left
    apply Int32.toInt_inj.mp
    have h1 := Int32.le_iff_toInt_le.mp hx.1
    have h2 := Int32.lt_iff_toInt_lt.mp h0
    have e1 : (-1 : Int32).toInt = -1 := by decide
    have e2 : (0 : Int32).toInt = 0 := by decide
    omega
  · right
    obtain ⟨k, hk, rfl⟩ := nI_of h0
    have := (nI_leI hk (show 99 < 2 ^ 31 by omega)).mp hx.2
    exact ⟨k, by omega, rfl⟩
section QM
variable {np nl nc nw : Nat} {len tim : Nat → Int32} {h : Nat → Nat} {z : Nat → Nat → Nat} {M N M' N' : Nat → Nat → Int32}
theorem yWF.want (w : yWF np nl nc tim h z) {p : Nat} {x : Int32} (hx : x = -1 ∨ ∃ t, t < 100 ∧ x = nI t) : yWF np nl nc (upd tim p x) h z := by
  obtain ⟨a1, a2, a3, a4, a5, a6, a7, a8, a9⟩ := w
  refine ⟨a1, a2, a3, a4, a5, a6, a7, a8, fun q hq => ?_⟩
  by_cases e : q = p
  · subst e; rw [pr_uS]; exact hx
  · rw [pr_uN e]; exact a9 q hq
end QM
theorem o_want : op_want Inv := by
  intro x1 x2 M N i
  obtain ⟨np, nl, nc, nw, len, tim, h, z, w, y, m, g, s⟩ := id i
  have hn := w.2.2.2.1
  by_cases h1 : ∃ p, p < nc ∧ x1 = nI p
  · obtain ⟨p, hp, rfl⟩ := h1
    have eg : f_M_isGone (0 : Int32) (nI p) N = some (bI (!lcB h z p), N) := em_isGone (d := 0) m w (by omega) hp
    cases hl : lcB h z p with
    | false =>
      refine ⟨nI (1 + 1), 0, M, 0, sc0 N 2, oc_no 1 2 rfl ?_, ?_, sc0_0, fun q => absurd q (by decide), i.code 2⟩
      · unfold x_P_want
        rw [(cp_y y w hp).2, xc_n, pr_cc (cp_y y w hp).1, pr_cc (ev_isGone y w hp), hl, if_neg (by decide)]
      · unfold f_M_want
        rw [pr_cc (ip_y m w hp), pr_cc (ip_y m w hp), if_neg one0, pr_cc eg, hl, if_neg (by decide)]
        unfold h_M_want_27 h_M_want_28
        rw [pr_cc (pr_in _ _ _ _), pr_cc (goes2 one0 rfl), if_pos rfl]
    | true =>
      by_cases hx : (-1 : Int32) ≤ x2 ∧ x2 ≤ 99
      · obtain ⟨M1, f1, s1, z0, z2, z6⟩ := ev_forget M
        obtain ⟨M2, e2⟩ : ∃ M2, M2 = kb_up M1 8 (upd (M1 8) p x2) := ⟨_, rfl⟩
        obtain ⟨N1, k1⟩ : ∃ N1, N1 = kb_up (sc0 N 0) 3 (upd (sc0 N 0 3) p x2) := ⟨_, rfl⟩
        obtain ⟨N2, f2, s2, n15, n17, nj⟩ := em_changed N1
        have t2 : ∀ c, c ≠ 2 → c ≠ 8 → M2 c = M c := fun c a b => by rw [e2, pr_upN b, s1 c (by simpa using a)]
        have t8 : M2 8 = upd (M 8) p x2 := by rw [e2, pr_upS, s1 8 (by decide)]
        have q2 : ∀ c, c ≠ 0 → c ≠ 3 → N2 c = N c := fun c a b => by rw [s2 c (by simpa using a), k1, pr_upN b, sc0_c a]
        have q3 : N2 3 = upd (N 3) p x2 := by rw [s2 3 (by decide), k1, pr_upS, sc0_c (by decide)]
        have q0 : ∀ j, j ≠ 15 → j ≠ 17 → N2 0 j = sc0 N 0 0 j := fun j a b => by rw [nj j a b, k1, pr_upN (by decide)]
        refine ⟨0, 0, M2, 0, N2, Or.inl ⟨?_, rfl⟩, ?_, by rw [q0 0 (by decide) (by decide), sc0_0], fun _ => trivial, np, nl, nc, nw, len, upd tim p x2, h, z, w.want (in_time hx), ?_, ?_, ?_, sr.none ?_ ?_ n15 n17⟩
        · unfold f_P_want
          rw [pr_cc (cp_y y w hp).1, pr_cc (ev_isGone y w hp), hl, if_pos (by decide), pr_cc (wi_y hx), if_neg one0, pr_cc f1, pr_wr rfl (by omega) (by omega), ← e2]
        · unfold f_M_want
          rw [pr_cc (ip_y m w hp), pr_cc (ip_y m w hp), if_neg one0, pr_cc eg, hl, if_pos (by decide)]
          unfold h_M_want_28
          rw [pr_cc (mi_y hx), pr_cc (goes0 one0 one0 one0), if_neg one0, pr_wr rfl (by omega) (by omega), ← k1, pr_cc f2]
        · obtain ⟨a1, a2, a3, a4, a5, a6, a7, a8, a9⟩ := y
          unfold yC
          rw [t2 1 (by decide) (by decide), t2 4 (by decide) (by decide), t2 5 (by decide) (by decide), t2 7 (by decide) (by decide), t8, t2 9 (by decide) (by decide), t2 10 (by decide) (by decide)]
          refine ⟨a1, a2, a3, a4, a5, a6, fun q hq => ?_, a8, a9⟩
          by_cases e : q = p
          · subst e; rw [pr_uS, pr_uS]
          · rw [pr_uN e, pr_uN e]; exact a7 q hq
        · obtain ⟨a1, a2, a3, a4, a5, a6, a7, a8⟩ := m
          unfold yM
          rw [q0 1 (by decide) (by decide), sc0_j (by decide), q0 2 (by decide) (by decide), sc0_j (by decide), q0 3 (by decide) (by decide), sc0_j (by decide), q2 6 (by decide) (by decide), q2 5 (by decide) (by decide), q2 2 (by decide) (by decide), q3, q2 7 (by decide) (by decide)]
          refine ⟨a1, a2, a3, a4, a5, a6, fun q hq => ?_, a8⟩
          by_cases e : q = p
          · subst e; rw [pr_uS, pr_uS]
          · rw [pr_uN e, pr_uN e]; exact a7 q hq
        · exact g.stays (fun c hc => t2 c (by omega) (by omega)) (by rw [q0 19 (by decide) (by decide), sc0_j (by decide)]) (fun c hc => q2 c (by omega) (by omega))
        · rw [e2, pr_upN (by decide)]; exact z0
        · rw [e2, pr_upN (by decide)]; exact z2
      · refine ⟨nI (2 + 1), 0, M, 0, sc0 N 3, oc_no 2 3 rfl ?_, ?_, sc0_0, fun q => absurd q (by decide), i.code 3⟩
        · unfold x_P_want
          rw [(cp_y y w hp).2, xc_n, pr_cc (cp_y y w hp).1, pr_cc (ev_isGone y w hp), hl, if_pos (by decide), pr_cc (wi_n hx), if_pos rfl]
        · unfold f_M_want
          rw [pr_cc (ip_y m w hp), pr_cc (ip_y m w hp), if_neg one0, pr_cc eg, hl, if_pos (by decide)]
          unfold h_M_want_28
          rw [pr_cc (mi_n hx), pr_cc (goes3 one0 one0 rfl), if_pos rfl]
  · refine ⟨nI (0 + 1), 0, M, 0, sc0 N 1, oc_no 0 1 rfl ?_, ?_, sc0_0, fun q => absurd q (by decide), i.code 1⟩
    · unfold x_P_want
      rw [(cp_n y w h1).2, xc_s]
    · unfold f_M_want
      rw [pr_cc (ip_n m w h1), pr_cc (ip_n m w h1), if_pos rfl]
      unfold h_M_want_27 h_M_want_28
      rw [pr_cc (pr_in _ _ _ _), pr_cc (goes1 rfl), if_pos rfl]
/-- the first wagon with room, from i on, c of them; past them all: the last number and one -/
def fw (ax ld : Nat → Int32) (kg : Int32) : Nat → Nat → Nat
  | 0, i => i
  | c + 1, i => if ld i + kg ≤ ax i then i else fw ax ld kg c (i + 1)
theorem fw_le {ax ld : Nat → Int32} {kg : Int32} : ∀ (c i : Nat), fw ax ld kg c i ≤ i + c := by
  intro c
  induction c with
  | zero => intro i; exact Nat.le_refl _
  | succ c ih =>
    intro i
    unfold fw
    split
    · omega
    · have := ih (i + 1); omega
section QN
variable {np nl nc nw : Nat} {len tim : Nat → Int32} {h : Nat → Nat} {z : Nat → Nat → Nat} {M N M' N' : Nat → Nat → Int32}
theorem ev_fw (g : wg nc nw M N) (kg : Int32) : ∀ (c f i : Nat), c < f → i + c = nw → h_W_firstWithRoom_2 f kg (nI i) M = some (if fw (N 12) (N 13) kg c i = nw then -1 else nI (fw (N 12) (N 13) kg c i), M) := by
  obtain ⟨g1, g2, g3, g4, g5, g6⟩ := id g
  intro c
  induction c with
  | zero =>
    intro f i hf hi
    obtain ⟨f, rfl⟩ : ∃ g, f = g + 1 := ⟨f - 1, by omega⟩
    rw [h_W_firstWithRoom_2, g1, if_pos (nI_le (by omega) (by omega))]
    show _ = some (if i = nw then -1 else nI i, M)
    rw [if_pos (by omega)]
  | succ c ih =>
    intro f i hf hi
    obtain ⟨f, rfl⟩ : ∃ g, f = g + 1 := ⟨f - 1, by omega⟩
    have h4 := g4 i (by omega)
    rw [h_W_firstWithRoom_2, g1, if_neg (nI_ge (by omega) (by omega)), pr_rd rfl (by omega) (by omega), pr_rd rfl (by omega) (by omega), h4.1, h4.2]
    unfold fw
    by_cases hr : N 13 i + kg ≤ N 12 i
    · rw [if_neg (Int32.not_lt.mpr hr), if_pos hr, if_neg (by omega)]
    · rw [if_pos (Int32.not_le.mp hr), if_neg hr, show nI i + 1 = nI (i + 1) from nI_1 i]
      exact ih f (i + 1) (by omega) (by omega)
theorem em_fw (g : wg nc nw M N) {p : Nat} (hp : p < nc) (hn : nc ≤ 10) : ∀ (c f i : Nat), c < f → i + c = nw → h_M_load_8 f (nI p) 1 (nI i) N = h_M_load_48 (nI p) 1 (nI (fw (N 12) (N 13) (N 1 p) c i)) N := by
  obtain ⟨g1, g2, g3, g4, g5, g6⟩ := id g
  intro c
  induction c with
  | zero =>
    intro f i hf hi
    obtain ⟨f, rfl⟩ : ∃ g, f = g + 1 := ⟨f - 1, by omega⟩
    rw [h_M_load_8, if_neg one0, g2, if_pos (nI_le (by omega) (by omega))]
    rfl
  | succ c ih =>
    intro f i hf hi
    obtain ⟨f, rfl⟩ : ∃ g, f = g + 1 := ⟨f - 1, by omega⟩
    rw [h_M_load_8, if_neg one0, g2, if_neg (nI_ge (by omega) (by omega)), pr_rd rfl (by omega) (by omega), pr_rd rfl (by omega) (by omega), pr_rd rfl (by omega) (by omega)]
    unfold fw
    by_cases hr : N 13 i + N 1 p ≤ N 12 i
    · rw [if_pos hr, if_pos hr]
    · rw [if_neg hr, if_neg hr, show nI i + 1 = nI (i + 1) from nI_1 i]
      exact ih f (i + 1) (by omega) (by omega)
end QN
theorem o_load : op_load Inv := by
  intro x1 M N i
  obtain ⟨np, nl, nc, nw, len, tim, h, z, w, y, m, g, s⟩ := id i
  have hn := w.2.2.2.1
  obtain ⟨g1, g2, g3, g4, g5, g6⟩ := id g
  by_cases h1 : ∃ p, p < nc ∧ x1 = nI p
  · obtain ⟨p, hp, rfl⟩ := h1
    obtain ⟨j, hj⟩ : ∃ j, fw (N 12) (N 13) (N 1 p) nw 0 = j := ⟨_, rfl⟩
    have hjw : j ≤ nw := by have := fw_le (ax := N 12) (ld := N 13) (kg := N 1 p) nw 0; omega
    have eg : f_M_isGone (0 : Int32) (nI p) N = some (bI (!lcB h z p), N) := em_isGone (d := 0) m w (by omega) hp
    obtain ⟨p6, p16, pv⟩ := g5 p hp
    have e48 : f_M_load (nI p) N = h_M_load_48 (nI p) 1 (nI j) N := by
      unfold f_M_load
      rw [pr_cc (ip_y m w hp), ← hj]
      exact em_fw g hp hn nw kb_F 0 (by unfold kb_F; omega) (by omega)
    have eF : f_W_firstWithRoom (M 6 p) M = some (if j = nw then -1 else nI j, M) := by
      have := ev_fw g (N 1 p) nw kb_F 0 (by unfold kb_F; omega) (by omega)
      rw [hj] at this
      rw [p6]
      exact this
    -- refused for the state
    have e76 : h_M_load_76 (nI p) (nI j) 1 N = some (0, sc0 N 2) := by
      unfold h_M_load_76 h_M_load_77 h_M_load_90
      rw [pr_cc (goes2 one0 rfl), pr_cc (goes2 one0 rfl), if_pos rfl]
      split <;> rfl
    cases hl : lcB h z p with
    | true =>
      refine ⟨nI (1 + 1), 0, M, 0, sc0 N 2, oc_no 1 2 rfl ?_, ?_, sc0_0, fun q => absurd q (by decide), i.code 2⟩
      · unfold x_P_load
        rw [(cp_y y w hp).2, xc_n, pr_cc (cp_y y w hp).1, pr_cc (ev_isGone y w hp), hl, if_pos (by decide)]
      · rw [e48]
        unfold h_M_load_48
        rw [if_neg one0, pr_cc eg, hl, if_pos (by decide), e76]
    | false =>
      by_cases hw : M 16 p = -1
      · have e77 : f_M_load (nI p) N = h_M_load_77 (nI p) (nI j) 1 1 N := by
          rw [e48]
          unfold h_M_load_48
          rw [if_neg one0, pr_cc eg, hl, if_neg (by decide), pr_rd rfl (by omega) (by omega), ← p16, hw, if_neg (by decide)]
        by_cases hjn : j = nw
        · refine ⟨nI (2 + 1), 0, M, 0, sc0 N 3, oc_no 2 4 rfl ?_, ?_, sc0_0, fun q => absurd q (by decide), i.code 3⟩
          · unfold x_P_load
            rw [(cp_y y w hp).2, xc_n, pr_cc (cp_y y w hp).1, pr_cc (ev_isGone y w hp), hl, if_neg (by decide), pr_rd rfl (by omega) (by omega), hw, if_pos rfl, pr_rd rfl (by omega) (by omega), pr_cc eF, if_pos hjn, if_pos rfl]
          · rw [e77]
            unfold h_M_load_77 h_M_load_90
            rw [g2, if_pos (nI_le (by omega) (by omega)), pr_cc (goes3 one0 one0 rfl), if_pos rfl]
        · obtain ⟨M1, e1⟩ : ∃ M1, M1 = kb_up M 15 (upd (M 15) j (M 15 j + M 6 p)) := ⟨_, rfl⟩
          obtain ⟨M2, e2⟩ : ∃ M2, M2 = kb_up M1 16 (upd (M1 16) p (nI j)) := ⟨_, rfl⟩
          obtain ⟨N1, k1⟩ : ∃ N1, N1 = kb_up (sc0 N 0) 13 (upd (sc0 N 0 13) j (sc0 N 0 13 j + sc0 N 0 1 p)) := ⟨_, rfl⟩
          obtain ⟨N2, k2⟩ : ∃ N2, N2 = kb_up N1 4 (upd (N1 4) p (nI j)) := ⟨_, rfl⟩
          have t2 : ∀ c, c ≠ 15 → c ≠ 16 → M2 c = M c := fun c a b => by rw [e2, pr_upN b, e1, pr_upN a]
          have t15 : M2 15 = upd (M 15) j (M 15 j + M 6 p) := by rw [e2, pr_upN (by decide), e1, pr_upS]
          have t16 : M2 16 = upd (M 16) p (nI j) := by rw [e2, pr_upS, e1, pr_upN (by decide)]
          have q2 : ∀ c, c ≠ 13 → c ≠ 4 → N2 c = sc0 N 0 c := fun c a b => by rw [k2, pr_upN b, k1, pr_upN a]
          have q13 : N2 13 = upd (N 13) j (N 13 j + N 1 p) := by rw [k2, pr_upN (by decide), k1, pr_upS, sc0_c (by decide), sc0_c (by decide)]
          have q4 : N2 4 = upd (N 4) p (nI j) := by rw [k2, pr_upS, k1, pr_upN (by decide), sc0_c (by decide)]
          refine ⟨0, nI j, M2, nI j, N2, Or.inl ⟨?_, rfl⟩, ?_, ?_, fun _ => rfl, np, nl, nc, nw, len, tim, h, z, w, y.stays (fun c hc => t2 c (by omega) (by omega)), yM.stM w ⟨fun j hj => ?_, fun j _ => ?_, fun j _ => ?_, ?_, ?_, ?_⟩ m, ⟨?_, ?_, g3, fun j' hj' => ?_, fun p' hp' => ?_, fun p' hp' hp2 => ?_⟩, s.stays (fun c hc => t2 c (by omega) (by omega)) (fun j hj => ?_) (fun c hc => ?_)⟩
          · unfold f_P_load
            rw [pr_cc (cp_y y w hp).1, pr_cc (ev_isGone y w hp), hl, if_neg (by decide), pr_rd rfl (by omega) (by omega), hw, if_pos rfl, pr_rd rfl (by omega) (by omega), pr_cc eF, if_neg hjn, if_neg (pr_m1 (by omega)), pr_rd rfl (by omega) (by omega)]
            unfold f_W_fill
            rw [pr_rd rfl (by omega) (by omega), pr_wr rfl (by omega) (by omega), ← e1, pr_wr rfl (by omega) (by omega), ← e2]
            rfl
          · rw [e77]
            unfold h_M_load_77 h_M_load_90
            rw [g2, if_neg (nI_ge (by omega) (by omega)), pr_cc (goes0 one0 one0 one0), if_neg one0, pr_rd rfl (by omega) (by omega), pr_rd rfl (by omega) (by omega), pr_wr rfl (by omega) (by omega), ← k1, pr_wr rfl (by omega) (by omega), ← k2]
          · rw [q2 0 (by decide) (by decide), sc0_0]
          · rw [q2 0 (by decide) (by decide), sc0_j (by omega)]
          · rw [q2 5 (by decide) (by decide), sc0_c (by decide)]
          · rw [q2 6 (by decide) (by decide), sc0_c (by decide)]
          · rw [q2 7 (by decide) (by decide), sc0_c (by decide)]
          · rw [q2 2 (by decide) (by decide), sc0_c (by decide)]
          · rw [q2 3 (by decide) (by decide), sc0_c (by decide)]
          · rw [t2 3 (by decide) (by decide)]; exact g1
          · rw [q2 0 (by decide) (by decide), sc0_j (by decide)]; exact g2
          · rw [t2 14 (by decide) (by decide), q2 12 (by decide) (by decide), sc0_c (by decide), t15, q13]
            refine ⟨(g4 j' hj').1, ?_⟩
            by_cases e : j' = j
            · subst e; rw [pr_uS, pr_uS, (g4 j' hj').2, p6]
            · rw [pr_uN e, pr_uN e]; exact (g4 j' hj').2
          · rw [t2 6 (by decide) (by decide), q2 1 (by decide) (by decide), sc0_c (by decide), t16, q4]
            refine ⟨(g5 p' hp').1, ?_⟩
            by_cases e : p' = p
            · subst e; rw [pr_uS, pr_uS]; exact ⟨rfl, Or.inr ⟨j, by omega, rfl⟩⟩
            · rw [pr_uN e, pr_uN e]; exact (g5 p' hp').2
          · rw [t16, pr_uN (by omega)]; exact g6 p' hp' hp2
          · rw [q2 0 (by decide) (by decide), sc0_j (by omega)]
          · rw [q2 c (by omega) (by omega), sc0_c (by omega)]
      · obtain ⟨j', hj4, hj'⟩ := pv.resolve_left hw
        refine ⟨nI (1 + 1), 0, M, 0, sc0 N 2, oc_no 1 2 rfl ?_, ?_, sc0_0, fun q => absurd q (by decide), i.code 2⟩
        · unfold x_P_load
          rw [(cp_y y w hp).2, xc_n, pr_cc (cp_y y w hp).1, pr_cc (ev_isGone y w hp), hl, if_neg (by decide), pr_rd rfl (by omega) (by omega), if_neg hw]
        · rw [e48]
          unfold h_M_load_48
          rw [if_neg one0, pr_cc eg, hl, if_neg (by decide), pr_rd rfl (by omega) (by omega), ← p16, hj', if_pos (nI_pos' (by omega)), e76]
  · refine ⟨nI (0 + 1), 0, M, 0, sc0 N 1, oc_no 0 1 rfl ?_, ?_, sc0_0, fun q => absurd q (by decide), i.code 1⟩
    · unfold x_P_load
      rw [(cp_n y w h1).2, xc_s]
    · unfold f_M_load
      obtain ⟨f, hf⟩ := pr_F 1 (by omega)
      rw [pr_cc (ip_n m w h1), hf, h_M_load_8, if_pos rfl]
      unfold h_M_load_48 h_M_load_76 h_M_load_77 h_M_load_90
      rw [if_pos rfl, pr_cc (goes1 rfl), pr_cc (goes1 rfl), if_pos rfl]
      split <;> rfl
