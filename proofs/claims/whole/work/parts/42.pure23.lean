/-! THE PURE PART 23: replay -/
theorem mid_at {α : Type} (pre post : List α) (q : α) (l : List α) : (pre ++ q :: l ++ post)[pre.length]? = some q := by
  rw [List.append_assoc, List.getElem?_append_right (Nat.le_refl _), Nat.sub_self]
  rfl
section QP
variable {np nl nc : Nat} {len tim : Nat → Int32}
theorem ev_do {x : List (Nat × Nat × Option Nat)} (hx : okB x) : ∀ (l pre post : List (Nat × Nat × Option Nat)) (f : Nat) (s : (Nat → Nat) × (Nat → Nat → Nat)) (M : Nat → Nat → Int32), l.length < f → x = pre ++ l ++ post → yWF np nl nc tim s.1 s.2 → mvV np nl s l → yC np nl nc len tim s.1 s.2 M → mvC x M →
    ∃ M', h_S_doMoves_2 f (nI (pre.length + l.length)) (nI pre.length) M = some (0, M') ∧ yC np nl nc len tim (mvR s l).1 (mvR s l).2 M' ∧ stay [4, 5, 9, 10] M M' := by
  intro l
  induction l with
  | nil =>
    intro pre post f s M hf he w hv y mc
    obtain ⟨f, rfl⟩ : ∃ g, f = g + 1 := ⟨f - 1, by omega⟩
    have h22 := hx.1
    have hln : x.length = pre.length + 0 + post.length := by rw [he]; simp
    rw [h_S_doMoves_2, if_pos (nI_le (by simp) (by simp; omega))]
    exact ⟨M, rfl, y, fun _ _ => rfl⟩
  | cons q l ih =>
    intro pre post f s M hf he w hv y mc
    obtain ⟨f, rfl⟩ : ∃ g, f = g + 1 := ⟨f - 1, by omega⟩
    have h22 := hx.1
    have hln : x.length = pre.length + (l.length + 1) + post.length := by rw [he]; simp; omega
    have hq : x[pre.length]? = some q := by rw [he]; exact mid_at pre post q l
    have he2 : x = (pre ++ [q]) ++ l ++ post := by rw [he]; simp
    have hmem : q ∈ x := by rw [he]; simp
    obtain ⟨c1, c2, c3⟩ := mc.2 _ q hq
    obtain ⟨ok, hv2⟩ := hv
    have w2 := mvA_wf w ok
    have elen : pre.length + (q :: l).length = (pre ++ [q]).length + l.length := by simp; omega
    have el1 : nI pre.length + 1 = nI (pre ++ [q]).length := by rw [List.length_append]; exact nI_1 _
    rw [h_S_doMoves_2, if_neg (nI_ge (by simp) (by simp; omega)), pr_rd rfl (by omega) (by omega), c3, el1, elen]
    obtain ⟨p, a, o⟩ := q
    have hla := w.2.2.2.2.1 a
    cases o with
    | none =>
      obtain ⟨M1, f1, y1, s1⟩ := ev_takeOff y w ok.1
      have ep : s.2 a (s.1 a - 1) = p := ok.2.1
      have f1' : f_Y_takeOff (nI p) M = some (0, M1) := by rw [← ep]; exact f1
      rw [if_pos (show oI none = -1 from rfl), pr_rd rfl (by omega) (by omega), c1, pr_cc f1']
      obtain ⟨M2, f2, y2, s2⟩ := ih (pre ++ [(p, a, none)]) post f (mvA s (p, a, none)) M1 (by simp at hf; omega) he2 w2 hv2 y1 (mc.stays (fun c hc => s1 c (by simp; omega)))
      exact ⟨M2, f2, y2, (s1.mono (fun c hc => by simp at hc ⊢; omega)).trans s2⟩
    | some b =>
      have hb := hx.2 _ hmem b rfl
      have ep : s.2 a (s.1 a - 1) = p := ok.2.1
      subst ep
      obtain ⟨M1, f1, y1, s1⟩ := ev_relift w y ok
      have f1' : f_Y_relift (nI (s.2 a (s.1 a - 1))) (oI (some b)) M = some (0, M1) := f1
      rw [if_neg (show ¬ oI (some b) = -1 from pr_m1 (by omega)), pr_rd rfl (by omega) (by omega), c1, pr_rd rfl (by omega) (by omega), c3, pr_cc f1']
      obtain ⟨M2, f2, y2, s2⟩ := ih (pre ++ [(s.2 a (s.1 a - 1), a, some b)]) post f (mvA s (s.2 a (s.1 a - 1), a, some b)) M1 (by simp at hf; omega) he2 w2 hv2 y1 (mc.stays (fun c hc => s1 c (by simp; omega)))
      exact ⟨M2, f2, y2, s1.trans s2⟩
/-- the reference looks for the pile whose top is the piece -/
theorem em_find {h : Nat → Nat} {z : Nat → Nat → Nat} {N : Nat → Nat → Int32} (y : yM np nl nc len tim 0 h z N) (w : yWF np nl nc tim h z) (kk : Int32 → Int32 → (Nat → Nat → Int32) → Option (Int32 × (Nat → Nat → Int32))) {a j : Nat} (u1 : Int32) (ha : 0 < h a) (hj : j < 40) (h9 : N 9 j = nI (z a (h a - 1))) : ∀ (c f k : Nat), c < f → k + c = a → ∃ f', h_M_replay_32 kk f u1 (nI j) (nI k) N = h_M_replay_32 kk (f' + 1) u1 (nI j) (nI a) N := by
  have h4 := w.2.1
  have hap := w.lt4 ha
  have hn := w.2.2.2.1
  have hza := w.2.2.2.2.2.2.1 a (h a - 1) (by omega)
  intro c
  induction c with
  | zero =>
    intro f k hf hk
    obtain ⟨f, rfl⟩ : ∃ g, f = g + 1 := ⟨f - 1, by omega⟩
    obtain rfl : k = a := by omega
    exact ⟨f, rfl⟩
  | succ c ih =>
    intro f k hf hk
    obtain ⟨f, rfl⟩ : ∃ g, f = g + 1 := ⟨f - 1, by omega⟩
    obtain ⟨f', e'⟩ := ih f (k + 1) (by omega) (by omega)
    refine ⟨f', ?_⟩
    have et : f_M_topOf (0 : Int32) (nI k) N = some (if h k = 0 then -1 else nI (z k (h k - 1)), N) := em_topOf (d := 0) y w (by omega) (by omega)
    rw [← e', h_M_replay_32, pr_cc et, pr_rd rfl hj (by omega), h9, if_neg ?_, show nI k + 1 = nI (k + 1) from nI_1 k]
    split
    · exact fun q => pr_m1 (by omega) q.symm
    · rename_i h0
      intro q
      have hzk := w.2.2.2.2.2.2.1 k (h k - 1) (by omega)
      have := (w.2.2.2.2.2.2.2.1 k (h k - 1) a (h a - 1) (by omega) (by omega) ((nI_eq (by omega) (by omega)).mp q)).1
      omega
theorem em_do {x : List (Nat × Nat × Option Nat)} (hx : okB x) : ∀ (l pre post : List (Nat × Nat × Option Nat)) (f : Nat) (s : (Nat → Nat) × (Nat → Nat → Nat)) (N : Nat → Nat → Int32), l.length < f → x = pre ++ l ++ post → yWF np nl nc tim s.1 s.2 → mvV np nl s l → yM np nl nc len tim 0 s.1 s.2 N → plM x N →
    ∃ N', h_M_replay_25 f (nI (pre.length + l.length)) (nI pre.length) N = kb_cl (f_M_changed N') (fun r5 M6 => h_M_replay_122 kb_F (0 : Int32) (0 : Int32) M6) ∧ yM np nl nc len tim 0 (mvR s l).1 (mvR s l).2 N' ∧ stay [5, 6, 7] N N' := by
  intro l
  induction l with
  | nil =>
    intro pre post f s N hf he w hv y mc
    obtain ⟨f, rfl⟩ : ∃ g, f = g + 1 := ⟨f - 1, by omega⟩
    have h22 := hx.1
    have hln : x.length = pre.length + 0 + post.length := by rw [he]; simp
    rw [h_M_replay_25, if_pos (nI_le (by simp) (by simp; omega))]
    exact ⟨N, rfl, y, fun _ _ => rfl⟩
  | cons q l ih =>
    intro pre post f s N hf he w hv y mc
    obtain ⟨f, rfl⟩ : ∃ g, f = g + 1 := ⟨f - 1, by omega⟩
    have h22 := hx.1
    have hln : x.length = pre.length + (l.length + 1) + post.length := by rw [he]; simp; omega
    have hq : x[pre.length]? = some q := by rw [he]; exact mid_at pre post q l
    have he2 : x = (pre ++ [q]) ++ l ++ post := by rw [he]; simp
    have hmem : q ∈ x := by rw [he]; simp
    obtain ⟨c1, c2⟩ := mc.2.2 _ q hq
    obtain ⟨ok, hv2⟩ := hv
    have w2 := mvA_wf w ok
    have hn := w.2.2.2.1
    have h4 := w.2.1
    have elen : pre.length + (q :: l).length = (pre ++ [q]).length + l.length := by simp; omega
    have el1 : nI pre.length + 1 = nI (pre ++ [q]).length := by rw [List.length_append]; exact nI_1 _
    obtain ⟨p, a, o⟩ := q
    have ha : 0 < s.1 a := ok.1
    have hap := w.lt4 ha
    have ep : s.2 a (s.1 a - 1) = p := ok.2.1
    have hp : p < nc := by rw [← ep]; exact w.2.2.2.2.2.2.1 a _ (by omega)
    obtain ⟨f', e'⟩ := em_find y w (fun y0 y1 N => h_M_replay_25 f y0 y1 N) (a := a) (j := pre.length) (nI (pre.length + ((p, a, o) :: l).length)) ha (by omega) (by rw [ep]; exact c1) a kb_F 0 (by unfold kb_F; omega) (by omega)
    have e'' : h_M_replay_32 (fun y0 y1 N => h_M_replay_25 f y0 y1 N) kb_F (nI (pre.length + ((p, a, o) :: l).length)) (nI pre.length) (0 : Int32) N = _ := e'
    have et : f_M_topOf (0 : Int32) (nI a) N = some (nI p, N) := by
      have := em_topOf (d := 0) y w (by omega) (k := a) (by omega)
      rw [if_neg (by omega), ep] at this
      exact this
    have hla := w.2.2.2.2.1 a
    have hl5 := w.2.2.1
    have e6 : N 6 a = nI (s.1 a) := by
      have := y.2.2.2.1 a (by omega)
      rw [show 4 * 0 + a = a by omega] at this
      exact this
    rw [h_M_replay_25, if_neg (nI_ge (by simp) (by simp; omega)), e'', h_M_replay_32, pr_cc et, pr_rd rfl (by omega) (by omega), c1, if_pos rfl, pr_rd rfl (by omega) (by omega), c2, el1, elen]
    cases o with
    | none =>
      obtain ⟨N1, e1⟩ : ∃ N1, N1 = kb_up N 6 (upd (N 6) (4 * 0 + a) (nI (s.1 a) - 1)) := ⟨_, rfl⟩
      obtain ⟨N2, e2⟩ : ∃ N2, N2 = kb_up N1 7 (upd (N1 7) 0 (N 7 0 ||| ((1 : Int32) <<< (nI (s.2 a (s.1 a - 1)) &&& 31)))) := ⟨_, rfl⟩
      have y2 := em_pop y w (by omega) ha e1 e2
      have s2 : stay [5, 6, 7] N N2 := fun c hc => by rw [e2, pr_upN (fun q => hc (by simp [q])), e1, pr_upN (fun q => hc (by simp [q]))]
      have e1a : kb_up N 6 (upd (N 6) a (nI (s.1 a) - 1)) = N1 := by rw [e1, show 4 * 0 + a = a by omega]
      rw [if_pos (show oI none < 0 by decide), pr_rd rfl (by omega) (by omega), e6, pr_wr rfl (by omega) (by omega), e1a, pr_rd (show (0 : Int32) = nI 0 from rfl) (by omega) (by omega), pr_rd rfl (by omega) (by omega), pr_wr (show (0 : Int32) = nI 0 from rfl) (by omega) (by omega)]
      have n7 : N1 7 0 = N 7 0 := by rw [e1, pr_upN (by decide)]
      have n9 : N1 9 pre.length = nI (s.2 a (s.1 a - 1)) := by rw [e1, pr_upN (by decide), ep]; exact c1
      rw [n7, n9, ← e2]
      have pl2 : plM x N2 := by
        unfold plM
        rw [s2 0 (by decide), s2 9 (by decide), s2 10 (by decide)]
        exact mc
      obtain ⟨N3, f3, y3, s3⟩ := ih (pre ++ [(p, a, none)]) post f (mvA s (p, a, none)) N2 (by simp at hf; omega) he2 w2 hv2 y2 pl2
      exact ⟨N3, f3, y3, s2.trans s3⟩
    | some b =>
      have hb := hx.2 _ hmem b rfl
      subst ep
      obtain ⟨N1, f1, y1, k5, k6, kc⟩ := em_lift y w (by omega) ok
      have s1 : stay [5, 6, 7] N N1 := fun c hc => kc c (fun q => hc (by simp at q ⊢; omega))
      have f1' : f_M_lift (0 : Int32) (nI a) (oI (some b)) N = some (0, N1) := f1
      rw [if_neg (show ¬ oI (some b) < 0 from nI_pos (by omega)), pr_rd rfl (by omega) (by omega), c2, pr_cc f1']
      have pl1 : plM x N1 := by
        unfold plM
        rw [s1 0 (by decide), s1 9 (by decide), s1 10 (by decide)]
        exact mc
      obtain ⟨N3, f3, y3, s3⟩ := ih (pre ++ [(s.2 a (s.1 a - 1), a, some b)]) post f (mvA s (s.2 a (s.1 a - 1), a, some b)) N1 (by simp at hf; omega) he2 w2 hv2 y1 pl1
      exact ⟨N3, f3, y3, s1.trans s3⟩
variable {h : Nat → Nat} {z : Nat → Nat → Nat} {M N : Nat → Nat → Int32}
theorem gn_s (p : Nat) : sumN (fun q => bN (!lcB h z q)) (p + 1) = sumN (fun q => bN (!lcB h z q)) p + bN (!lcB h z p) := rfl
theorem ev_cg (y : yC np nl nc len tim h z M) (w : yWF np nl nc tim h z) : ∀ (c f p : Nat), c < f → p + c = nc → h_Y_countGone_4 f (nI (sumN (fun q => bN (!lcB h z q)) p)) (nI p) M = some (nI (sumN (fun q => bN (!lcB h z q)) nc), M) := by
  have hn := w.2.2.2.1
  intro c
  induction c with
  | zero =>
    intro f p hf hp
    obtain ⟨f, rfl⟩ : ∃ g, f = g + 1 := ⟨f - 1, by omega⟩
    rw [h_Y_countGone_4, y.2.2.1, if_pos (nI_le (by omega) (by omega)), show p = nc by omega]
  | succ c ih =>
    intro f p hf hp
    obtain ⟨f, rfl⟩ : ∃ g, f = g + 1 := ⟨f - 1, by omega⟩
    have h2 := ih f (p + 1) (by omega) (by omega)
    rw [gn_s] at h2
    rw [h_Y_countGone_4, y.2.2.1, if_neg (nI_ge (by omega) (by omega)), pr_cc (ev_isGone y w (by omega)), show nI p + 1 = nI (p + 1) from nI_1 p, show ∀ v, nI v + 1 = nI (v + 1) from nI_1]
    cases hl : lcB h z p with
    | true =>
      rw [hl] at h2
      rw [if_pos (show bI (!true) = 0 from rfl)]
      exact h2
    | false =>
      rw [hl] at h2
      rw [if_neg (show ¬ bI (!false) = 0 by decide)]
      exact h2
theorem em_cg (y : yM np nl nc len tim 0 h z N) (w : yWF np nl nc tim h z) : ∀ (c f p : Nat), c < f → p + c = nc → h_M_replay_122 f (nI (sumN (fun q => bN (!lcB h z q)) p)) (nI p) N = some (nI (sumN (fun q => bN (!lcB h z q)) nc), N) := by
  have hn := w.2.2.2.1
  intro c
  induction c with
  | zero =>
    intro f p hf hp
    obtain ⟨f, rfl⟩ : ∃ g, f = g + 1 := ⟨f - 1, by omega⟩
    rw [h_M_replay_122, y.2.2.1, if_pos (nI_le (by omega) (by omega)), show p = nc by omega]
  | succ c ih =>
    intro f p hf hp
    obtain ⟨f, rfl⟩ : ∃ g, f = g + 1 := ⟨f - 1, by omega⟩
    have h2 := ih f (p + 1) (by omega) (by omega)
    rw [gn_s] at h2
    have eg : f_M_isGone (0 : Int32) (nI p) N = some (bI (!lcB h z p), N) := em_isGone (d := 0) y w (by omega) (by omega)
    rw [h_M_replay_122, y.2.2.1, if_neg (nI_ge (by omega) (by omega)), pr_cc eg, show nI p + 1 = nI (p + 1) from nI_1 p, show ∀ v, nI v + 1 = nI (v + 1) from nI_1]
    cases hl : lcB h z p with
    | true =>
      rw [hl] at h2
      rw [if_pos (show bI (!true) = 0 from rfl)]
      exact h2
    | false =>
      rw [hl] at h2
      rw [if_neg (show ¬ bI (!false) = 0 by decide)]
      exact h2
end QP
theorem o_replay : op_replay Inv := by
  intro x1 M N i
  obtain ⟨np, nl, nc, nw, len, tim, h, z, w, y, m, g, s⟩ := id i
  have hn := w.2.2.2.1
  obtain ⟨s0, pv, pl, s1, s2, s3, s4, s5, s6⟩ := id s
  cases pl with
  | false =>
    refine ⟨nI (0 + 1), 0, M, 0, sc0 N 1, oc_no 0 2 rfl ?_, ?_, sc0_0, fun q => absurd q (by decide), i.code 1⟩
    · unfold x_P_replay x_P_checkPlan
      rw [s4, if_pos (show bI false = 0 from rfl), xc_s]
    · unfold f_M_replay
      rw [pr_cc (pr_in _ _ _ _), s5, pr_cc (goes1 (show bI false = 0 from rfl)), if_pos rfl]
  | true =>
    obtain ⟨x, t1, t2, t3, t4⟩ := s6 rfl
    have c0 : f_P_checkPlan M = some (0, M) := by
      unfold f_P_checkPlan
      rw [s4, if_neg (by decide)]
    have c1 : x_P_checkPlan M = none := by
      unfold x_P_checkPlan
      rw [s4, if_neg (by decide)]
    by_cases hx : (0 : Int32) ≤ x1 ∧ x1 ≤ nI x.length
    · obtain ⟨n, -, hnx, rfl⟩ := (in_rng (a := 0) (b := x.length) (by omega) (by omega)).mp hx
      have hok : okB x := ⟨t1, mvV_ok x (h, z) w.2.1 t2⟩
      have hsp : x = [] ++ x.take n ++ x.drop n := by simp
      have hlt : (x.take n).length = n := by rw [List.length_take]; omega
      have hv : mvV np nl (h, z) (x.take n) := by
        have : mvV np nl (h, z) (x.take n ++ x.drop n) := by rw [List.take_append_drop]; exact t2
        exact ((mvV_app _ _ _).mp this).1
      have wR := mvR_wf (np := np) (nl := nl) (nc := nc) (tim := tim) (x.take n) (s := (h, z)) w hv
      obtain ⟨M1, f1, y1, k1⟩ := ev_do (len := len) hok (x.take n) [] (x.drop n) kb_F (h, z) M (by unfold kb_F; omega) hsp w hv y t3
      have f1' : f_S_doMoves (nI n) M = some (0, M1) := by
        have e : nI (([] : List (Nat × Nat × Option Nat)).length + (x.take n).length) = nI n := by rw [hlt]; simp
        rw [e] at f1
        exact f1
      obtain ⟨M2, f2, k2, z0, z2, -⟩ := ev_forget M1
      have y2 : yC np nl nc len tim (mvR (h, z) (x.take n)).1 (mvR (h, z) (x.take n)).2 M2 := y1.stays (fun c hc => k2 c (by simp; omega))
      have m0 : yM np nl nc len tim 0 h z (sc0 N 0) := yM.stM w stM.sc0 m
      have p0 : plM x (sc0 N 0) := by
        unfold plM
        rw [sc0_j (by decide), sc0_j (by decide), sc0_c (by decide), sc0_c (by decide)]
        exact t4
      obtain ⟨N1, g1, n1, q1⟩ := em_do (len := len) hok (x.take n) [] (x.drop n) kb_F (h, z) (sc0 N 0) (by unfold kb_F; omega) hsp w hv m0 p0
      have g1' : h_M_replay_25 kb_F (nI n) (0 : Int32) (sc0 N 0) = kb_cl (f_M_changed N1) (fun r5 M6 => h_M_replay_122 kb_F (0 : Int32) (0 : Int32) M6) := by
        have e : nI (([] : List (Nat × Nat × Option Nat)).length + (x.take n).length) = nI n := by rw [hlt]; simp
        rw [e] at g1
        exact g1
      obtain ⟨N2, g2, q2, n15, n17, nj⟩ := em_changed N1
      have m2 : yM np nl nc len tim 0 (mvR (h, z) (x.take n)).1 (mvR (h, z) (x.take n)).2 N2 := yM.stM wR (q2.stM nj) n1
      generalize mvR (h, z) (x.take n) = t at *
      have cC : f_Y_countGone M2 = some (nI (sumN (fun q => bN (!lcB t.1 t.2 q)) nc), M2) := ev_cg y2 wR nc kb_F 0 (by unfold kb_F; omega) (by omega)
      have cM : h_M_replay_122 kb_F (0 : Int32) (0 : Int32) N2 = some (nI (sumN (fun q => bN (!lcB t.1 t.2 q)) nc), N2) := em_cg m2 wR nc kb_F 0 (by unfold kb_F; omega) (by omega)
      have qj : ∀ j, j ≠ 15 → j ≠ 17 → N2 0 j = sc0 N 0 0 j := fun j a b => by rw [nj j a b, q1 0 (by decide)]
      refine ⟨0, nI (sumN (fun q => bN (!lcB t.1 t.2 q)) nc), M2, nI (sumN (fun q => bN (!lcB t.1 t.2 q)) nc), N2, Or.inl ⟨?_, rfl⟩, ?_, by rw [qj 0 (by decide) (by decide), sc0_0], fun _ => rfl, np, nl, nc, nw, len, tim, t.1, t.2, wR, y2, m2, ?_, sr.none z0 z2 n15 n17⟩
      · unfold f_P_replay
        rw [pr_cc c0, t3.1, pr_cc (wi_y hx), if_neg one0, pr_cc f1', pr_cc f2, pr_cc cC]
      · unfold f_M_replay
        rw [t4.2.1, pr_cc (mi_y hx), s5, pr_cc (goes0 (by decide) one0 one0), if_neg one0, g1', pr_cc g2, cM]
      · exact g.stays (fun c hc => by rw [k2 c (by simp; omega), k1 c (by simp; omega)]) (by rw [qj 19 (by decide) (by decide), sc0_j (by decide)]) (fun c hc => by rw [q2 c (by simp; omega), q1 c (by simp; omega), sc0_c (by omega)])
    · refine ⟨nI (1 + 1), 0, M, 0, sc0 N 2, oc_no 1 3 rfl ?_, ?_, sc0_0, fun q => absurd q (by decide), i.code 2⟩
      · unfold x_P_replay
        rw [c1, xc_n, pr_cc c0, t3.1, pr_cc (wi_n hx), if_pos rfl]
      · unfold f_M_replay
        rw [t4.2.1, pr_cc (mi_n hx), s5, pr_cc (goes2 (by decide) rfl), if_pos rfl]
