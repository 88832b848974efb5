/-! THE PURE PART 16: the rounds of the search; the reference's run -/
def rdF (np nl nc : Nat) (len tim : Nat → Int32) (h : Nat → Nat) (z : Nat → Nat → Nat) (lim nd : Nat) : Option (List (Nat × Nat × Option Nat)) × Option Nat :=
  if isN (nwF tim (lvF tim z nc 10 h).1 z nc) = true then (some ([] ++ (lvF tim z nc 10 h).2), some nd) else sD np nl nc len tim lim 14 0 (lvF tim z nc 10 h).1 z ([] ++ (lvF tim z nc 10 h).2) nd
/-- c rounds are left: the plan, or whether it was cut -/
def rnF (np nl nc : Nat) (len tim : Nat → Int32) (h : Nat → Nat) (z : Nat → Nat → Nat) : Nat → Nat → Option (List (Nat × Nat × Option Nat)) × Bool
  | 0, _ => (none, false)
  | c + 1, nd => match rdF np nl nc len tim h z (12 - c) nd with
    | (some x, _) => (some x, false)
    | (none, none) => (none, true)
    | (none, some n) => rnF np nl nc len tim h z c n
def rlB (o : Option (Nat × Nat × Option Nat)) : Bool := match o with
  | some (_, _, some _) => true
  | _ => false
/-- the re-lifts among the first n moves -/
def rlF (x : List (Nat × Nat × Option Nat)) (n : Nat) : Nat := sumN (fun j => bN (rlB x[j]?)) n
def okB (x : List (Nat × Nat × Option Nat)) : Prop := x.length ≤ 22 ∧ ∀ q, q ∈ x → ∀ b, q.2.2 = some b → b < 4
def rnM (R : Option (List (Nat × Nat × Option Nat)) × Bool) (rr : Int32) (N' : Nat → Nat → Int32) : Prop := (∃ x, R = (some x, false) ∧ rr = nI (rlF x x.length) ∧ plM x N' ∧ N' 0 16 = 1) ∨ (∃ c, R = (none, c) ∧ rr = -1 ∧ N' 0 17 = 0 ∧ N' 0 16 = bI (!c))
def frR (N N' : Nat → Nat → Int32) : Prop := (∀ c, c ∉ [0, 5, 6, 7, 8, 9, 10, 11] → N' c = N c) ∧ (∀ j, j ≠ 16 → j ≠ 17 → j ≠ 18 → N' 0 j = N 0 j) ∧ (∀ j, j < 20 → N' 5 j = N 5 j) ∧ (∀ j, j < 4 → N' 6 j = N 6 j) ∧ N' 7 0 = N 7 0
theorem frN.toR {r ml : Nat} {A B : Nat → Nat → Int32} (h1 : frN r ml A B) : frR A B :=
  ⟨fun c hc => h1.1 c (fun q => hc (by simp at q ⊢; omega)), fun j _ _ _ => by rw [h1.1 0 (by decide)], fun j hj => h1.2.1 j (by omega), fun j hj => h1.2.2.1 j (by omega), (h1.2.2.2.1 0 (Nat.zero_le _)).1⟩
theorem frP.toR {A B : Nat → Nat → Int32} (h1 : frP A B) : frR A B :=
  ⟨h1.1, fun j _ a b => h1.2.1 j a b, h1.2.2.1, h1.2.2.2.1, h1.2.2.2.2⟩
theorem frR.trans {A B C : Nat → Nat → Int32} (h1 : frR A B) (h2 : frR B C) : frR A C :=
  ⟨fun c hc => (h2.1 c hc).trans (h1.1 c hc), fun j a b c => (h2.2.1 j a b c).trans (h1.2.1 j a b c), fun j hj => (h2.2.2.1 j hj).trans (h1.2.2.1 j hj), fun j hj => (h2.2.2.2.1 j hj).trans (h1.2.2.2.1 j hj), h2.2.2.2.2.trans h1.2.2.2.2⟩
theorem frR.up {N : Nat → Nat → Int32} {j : Nat} {v : Int32} (hj : j = 16 ∨ j = 17 ∨ j = 18) : frR N (kb_up N 0 (upd (N 0) j v)) :=
  ⟨fun c hc => pr_upN (fun q => hc (by simp [q])), fun i a b c => by rw [pr_upS, pr_uN (by omega)], fun _ _ => by rw [pr_upN (by decide)], fun _ _ => by rw [pr_upN (by decide)], by rw [pr_upN (by decide)]⟩
theorem rl_at {x : List (Nat × Nat × Option Nat)} {j : Nat} (hj : j < x.length) : ∃ q, x[j]? = some q ∧ q ∈ x := ⟨x[j], List.getElem?_eq_getElem hj, List.getElem_mem hj⟩
theorem rlF_s (x : List (Nat × Nat × Option Nat)) (j : Nat) : rlF x (j + 1) = rlF x j + bN (rlB x[j]?) := rfl
theorem em_rl {x : List (Nat × Nat × Option Nat)} {N : Nat → Nat → Int32} (hx : okB x) (p : plM x N) : ∀ (c f j : Nat), c < f → j + c = x.length → h_M_run_105 f (nI (rlF x j)) (nI j) N = some (nI (rlF x x.length), N) := by
  have h22 := hx.1
  intro c
  induction c with
  | zero =>
    intro f j hf hj
    obtain ⟨f, rfl⟩ : ∃ g, f = g + 1 := ⟨f - 1, by omega⟩
    rw [h_M_run_105, p.2.1, if_pos (nI_le (by omega) (by omega)), show j = x.length by omega]
  | succ c ih =>
    intro f j hf hj
    obtain ⟨f, rfl⟩ : ∃ g, f = g + 1 := ⟨f - 1, by omega⟩
    obtain ⟨q, hq, hm⟩ := rl_at (x := x) (j := j) (by omega)
    have h2 := ih f (j + 1) (by omega) (by omega)
    rw [rlF_s, hq] at h2
    rw [h_M_run_105, p.2.1, if_neg (nI_ge (by omega) (by omega)), pr_rd rfl (by omega) (by omega), (p.2.2 j q hq).2, show nI j + 1 = nI (j + 1) from nI_1 j, show nI (rlF x j) + 1 = nI (rlF x j + 1) from nI_1 _]
    obtain ⟨p1, a, o⟩ := q
    cases o with
    | none => rw [if_pos (show oI none < 0 by decide)]; exact h2
    | some b =>
      have hb := hx.2 _ hm b rfl
      rw [if_neg (show ¬ oI (some b) < 0 from nI_pos (by omega))]
      exact h2
theorem r71 {x : List (Nat × Nat × Option Nat)} {N : Nat → Nat → Int32} (hx : okB x) (p : plM x N) (u2 : Int32) : h_M_run_71 u2 N = some (nI (rlF x x.length), kb_up N 0 (upd (N 0) 16 1)) := by
  have p' : plM x (kb_up N 0 (upd (N 0) 16 1)) := by
    refine ⟨?_, ?_, fun j q hq => ?_⟩
    · rw [pr_upS, pr_uN (by decide)]; exact p.1
    · rw [pr_upS, pr_uN (by decide)]; exact p.2.1
    · rw [pr_upN (by decide), pr_upN (by decide)]; exact p.2.2 j q hq
  unfold h_M_run_71
  rw [p.1, if_neg (by decide)]
  unfold h_M_run_83 h_M_run_88 kb_bz
  rw [if_pos (Or.inr rfl), pr_st, p'.1, if_neg (by decide)]
  exact em_rl hx p' x.length kb_F 0 (by have := hx.1; unfold kb_F; omega) (by omega)
theorem r71n {N : Nat → Nat → Int32} (h0 : N 0 17 = 0) (u2 : Int32) (c : Bool) (hc : (u2 < 0) ↔ c = true) : h_M_run_71 u2 N = some (-1, kb_up N 0 (upd (N 0) 16 (bI (!c)))) := by
  unfold h_M_run_71
  rw [h0, if_pos rfl]
  have e : ∀ v : Int32, kb_up N 0 (upd (N 0) 16 v) 0 17 = 0 := fun v => by rw [pr_upS, pr_uN (by decide)]; exact h0
  cases c with
  | true =>
    rw [if_pos (hc.mpr rfl)]
    unfold h_M_run_88 kb_bz
    rw [if_pos (Or.inl rfl), pr_st, e, if_pos rfl]
    rfl
  | false =>
    rw [if_neg (fun q => by cases hc.mp q)]
    unfold h_M_run_83 h_M_run_88 kb_bz
    rw [if_pos (Or.inr rfl), pr_st, e, if_pos rfl]
    rfl
theorem r41f {f : Nat} {u2 u3 : Int32} {N : Nat → Nat → Int32} (h : N 0 17 = 1) : h_M_run_41 (f + 1) u2 u3 N = h_M_run_71 u2 N := by
  rw [h_M_run_41, h, if_neg (show ¬ (1 : Int32) = 0 by decide)]
  split
  · rfl
  · split <;> rfl
theorem r41n {f : Nat} {u2 u3 : Int32} {N : Nat → Nat → Int32} (h : u2 < 0 ∨ (12 : Int32) < u3) : h_M_run_41 (f + 1) u2 u3 N = h_M_run_71 u2 N := by
  rw [h_M_run_41]
  split
  · rfl
  · rename_i q
    rw [if_pos (h.resolve_right q)]
section QJ
variable {np nl nc : Nat} {len tim : Nat → Int32} {h : Nat → Nat} {z : Nat → Nat → Nat}
theorem yM.frR {N N' : Nat → Nat → Int32} (w : yWF np nl nc tim h z) (f : frR N N') (y : yM np nl nc len tim 0 h z N) : yM np nl nc len tim 0 h z N' := by
  obtain ⟨a1, a2, a3, a4, a5, a6, a7, g, g1, g2, g3⟩ := y
  obtain ⟨k1, k2, k3, k4, k5⟩ := f
  have hl := w.2.2.2.2.1
  have hl5 := w.2.2.1
  refine ⟨by rw [k2 1 (by decide) (by decide) (by decide)]; exact a1, by rw [k2 2 (by decide) (by decide) (by decide)]; exact a2, by rw [k2 3 (by decide) (by decide) (by decide)]; exact a3, fun k hk => by rw [k4 _ (by omega)]; exact a4 k hk, fun k i hk hi => ?_, fun p hp => by rw [k1 2 (by decide)]; exact a6 p hp, fun p hp => by rw [k1 3 (by decide)]; exact a7 p hp, g, g1, by rw [k5]; exact g2, g3⟩
  have := hl k
  rw [k3 _ (by omega)]
  exact a5 k i hk hi
theorem em_round {lim nd : Nat} {N : Nat → Nat → Int32} (w : yWF np nl nc tim h z) (y : yM np nl nc len tim 0 h z N) (hbd : bd tim h z np ≤ lim) (hlim : lim ≤ 12) (hnd : nd ≤ 100000) :
    (∃ x n N', rdF np nl nc len tim h z lim nd = (some x, some n) ∧ n ≤ nd ∧ f_M_round (nI lim) (nI nd) N = some (nI n, N') ∧ plM x N' ∧ frP N N') ∨
    (∃ N', rdF np nl nc len tim h z lim nd = (none, none) ∧ f_M_round (nI lim) (nI nd) N = some (-1, N') ∧ frN 0 0 N N') ∨
    (∃ n N', rdF np nl nc len tim h z lim nd = (none, some n) ∧ n ≤ nd ∧ f_M_round (nI lim) (nI nd) N = some (nI n, N') ∧ frN 0 0 N N') := by
  have hnc := w.2.2.2.1
  have htot := tot_le w
  have h4 := w.2.1
  have hnn : np * np ≤ 16 := Nat.mul_le_mul h4 h4
  unfold f_M_round
  obtain ⟨N1, f1, c1⟩ := em_copy (a := 0) (b := 1) (by omega) (by omega) (by omega) N
  have f1' : f_M_copy (0 : Int32) (1 : Int32) N = some (0, N1) := f1
  rw [pr_cc f1', pr_wr (show (1 : Int32) = nI 1 from rfl) (by omega) (by omega)]
  obtain ⟨N2, e2⟩ : ∃ N2, N2 = kb_up N1 11 (upd (N1 11) 1 (0 : Int32)) := ⟨_, rfl⟩
  rw [← e2]
  have s2 : ∀ c, c ≠ 11 → N2 c = N1 c := fun c hc => by rw [e2, pr_upN hc]
  have y1 := cpM_yM c1 w y
  have y2 : yM np nl nc len tim 1 h z N2 := by
    unfold yM at y1 ⊢
    rw [s2 0 (by decide), s2 6 (by decide), s2 5 (by decide), s2 2 (by decide), s2 3 (by decide), s2 7 (by decide)]
    exact y1
  have m2 : mvM [] 1 N2 := ⟨by rw [e2, pr_upS, pr_uS]; rfl, fun j q hq => by cases hq⟩
  obtain ⟨N3, f3, y3, m3, r3⟩ := em_leaves (d := 1) (len := len) 10 kb_F [] h N2 (by unfold kb_F; omega) (by omega) (by omega) w y2 m2 (by simp; omega)
  have f3' : f_M_leaves (1 : Int32) N2 = some (bI (isN (nwF tim (lvF tim z nc 10 h).1 z nc)), N3) := f3
  obtain ⟨l1, l2, l3, l4, l5, l6⟩ := lvF_ok (np := np) (nl := nl) (nc := nc) (tim := tim) (z := z) 10 w
  rw [pr_cc f3']
  unfold rdF
  generalize hlv : lvF tim z nc 10 h = lv at *
  have fr3 : frN 0 0 N N3 := by
    obtain ⟨v1, v2, v3, v4⟩ := r3
    obtain ⟨p1, p2, p3, p4, p5, p6, p7, p8⟩ := c1
    refine ⟨fun c hc => ?_, fun j hj => ?_, fun j hj => ?_, fun e he => ⟨?_, ?_⟩, fun e he => absurd he (by omega), fun j hj => absurd hj (by omega)⟩
    · rw [v1 c (fun q => hc (by simp at q ⊢; omega)), s2 c (fun q => hc (by simp [q])), p8 c (fun q => hc (by simp at q ⊢; omega))]
    · rw [v1 5 (by decide), s2 5 (by decide), p5 j (by omega)]
    · rw [v2 j (by omega), s2 6 (by decide), p6 j (by omega)]
    · rw [(v3 e (by omega)).1, s2 7 (by decide), (p7 e (by omega)).1]
    · rw [(v3 e (by omega)).2, e2, pr_upS, pr_uN (by omega), (p7 e (by omega)).2]
  cases e : nwF tim lv.1 z nc with
  | none =>
    rw [if_neg (show ¬ bI (isN none) = 0 by decide), if_pos (show isN none = true from rfl), pr_st, pr_rd (show (1 : Int32) = nI 1 from rfl) (by omega) (by omega), pr_st]
    refine Or.inl ⟨_, nd, _, rfl, Nat.le_refl _, rfl, ⟨?_, ?_, fun j x hx => ?_⟩, fr3.thenP ⟨fun c hc => ?_, fun j a b => ?_, fun j _ => ?_, fun j _ => ?_, ?_⟩⟩
    · rw [pr_upS, pr_uN (by decide), pr_upS, pr_uS]
    · rw [pr_upS, pr_uS, pr_upN (by decide)]; exact m3.1
    · rw [pr_upN (by decide), pr_upN (by decide), pr_upN (by decide), pr_upN (by decide)]; exact m3.2 j x hx
    · rw [pr_upN (fun q => hc (by simp [q])), pr_upN (fun q => hc (by simp [q]))]
    · rw [pr_upS, pr_uN b, pr_upS, pr_uN a]
    · rw [pr_upN (by decide), pr_upN (by decide)]
    · rw [pr_upN (by decide), pr_upN (by decide)]
    · rw [pr_upN (by decide), pr_upN (by decide)]
  | some p =>
    rw [if_pos (show bI (isN (some p)) = 0 from rfl), if_neg (show ¬ isN (some p) = true from fun q => by cases q), pr_wr (show (1 : Int32) = nI 1 from rfl) (by omega) (by omega)]
    obtain ⟨N4, e4⟩ : ∃ N4, N4 = kb_up N3 8 (upd (N3 8) 1 (0 : Int32)) := ⟨_, rfl⟩
    rw [← e4]
    have s4 : ∀ c, c ≠ 8 → N4 c = N3 c := fun c hc => by rw [e4, pr_upN hc]
    have fr4 : frN 0 0 N N4 := fr3.trans ⟨fun c hc => s4 c (fun q => hc (by simp [q])), fun j _ => by rw [s4 5 (by decide)], fun j _ => by rw [s4 6 (by decide)], fun e _ => ⟨by rw [s4 7 (by decide)], by rw [s4 11 (by decide)]⟩, fun e he => absurd he (by omega), fun j hj => absurd hj (by omega)⟩
    have y4 : yM np nl nc len tim (0 + 1) lv.1 z N4 := by
      unfold yM at y3 ⊢
      rw [s4 0 (by decide), s4 6 (by decide), s4 5 (by decide), s4 2 (by decide), s4 3 (by decide), s4 7 (by decide)]
      exact y3
    have m4 : mvM ([] ++ lv.2) (0 + 1) N4 := by
      unfold mvM at m3 ⊢
      rw [s4 11 (by decide), s4 9 (by decide), s4 10 (by decide)]
      exact m3
    have sn : sNode np nl nc tim lim lv.1 z ([] ++ lv.2) 0 := ⟨l1, ⟨p, e, l6 (by omega) p e⟩, by omega, hlim, by simp; omega⟩
    have hh := em_node (len := len) hlim 13 0 lv.1 z ([] ++ lv.2) sn (by omega) (np * np) kb_F nd N4 (Nat.le_refl _) (by unfold kb_F; omega) hnd y4 m4 (by rw [Nat.sub_self, e4, pr_upS, pr_uS]; rfl)
    have eC : sD np nl nc len tim lim 14 0 lv.1 z ([] ++ lv.2) nd = sLoop np nl nc len tim lim (fun h z mv nd => sD np nl nc len tim lim 13 (0 + 1) h z mv nd) lv.1 z ([] ++ lv.2) 0 (np * np) nd := rfl
    rw [← eC] at hh
    rcases hh with ⟨x, n, N6, g1, g2, g3, g4, g5⟩ | ⟨N6, g1, g2, g3⟩ | ⟨n, N6, f6, g1, g2, g3, g4, g5, g6⟩
    · exact Or.inl ⟨x, n, N6, g1, g2, g3, g4, fr4.thenP g5⟩
    · exact Or.inr (Or.inl ⟨N6, g1, g2, fr4.trans g3⟩)
    · have hF : kb_F = 10000000 := rfl
      obtain ⟨f7, rfl⟩ : ∃ g, f6 = g + 1 := ⟨f6 - 1, by omega⟩
      rw [h_M_round_50, if_pos (show nI 0 ≤ (0 : Int32) by decide)] at g3
      exact Or.inr (Or.inr ⟨n, N6, g1, g2, g3, fr4.trans (g5.mono (Nat.le_refl _) (Nat.zero_le _))⟩)
theorem em_rounds (w : yWF np nl nc tim h z) : ∀ (c f nd : Nat) (N : Nat → Nat → Int32), c + 1 < f → bd tim h z np + c ≤ 13 → nd ≤ 100000 → yM np nl nc len tim 0 h z N → N 0 17 = 0 → (∀ x, (rnF np nl nc len tim h z c nd).1 = some x → okB x) → ∃ rr N', h_M_run_41 f (nI nd) (nI (13 - c)) N = some (rr, N') ∧ frR N N' ∧ rnM (rnF np nl nc len tim h z c nd) rr N' := by
  intro c
  induction c with
  | zero =>
    intro f nd N hf hb hnd y h0 _
    obtain ⟨f, rfl⟩ : ∃ g, f = g + 1 := ⟨f - 1, by omega⟩
    rw [r41n (Or.inr (show (12 : Int32) < nI (13 - 0) by decide)), r71n h0 _ false ⟨fun q => absurd q (nI_pos (by omega)), fun q => by cases q⟩]
    exact ⟨_, _, rfl, frR.up (Or.inl rfl), Or.inr ⟨false, rfl, rfl, by rw [pr_upS, pr_uN (by decide)]; exact h0, by rw [pr_upS, pr_uS]⟩⟩
  | succ c ih =>
    intro f nd N hf hb hnd y h0 ok
    obtain ⟨f, rfl⟩ : ∃ g, f = g + 1 := ⟨f - 1, by omega⟩
    obtain ⟨f, rfl⟩ : ∃ g, f = g + 1 := ⟨f - 1, by omega⟩
    have e12 : 13 - (c + 1) = 12 - c := by omega
    rw [h_M_run_41, e12, if_neg (show ¬ (12 : Int32) < nI (12 - c) from nI_nlt (a := 12) (by omega) (by decide)), if_neg (nI_pos (by omega)), h0, if_pos rfl]
    rcases em_round (lim := 12 - c) (nd := nd) w y (by omega) (by omega) hnd with ⟨x, n, N1, g1, g2, g3, g4, g5⟩ | ⟨N1, g1, g2, g3⟩ | ⟨n, N1, g1, g2, g3, g5⟩
    · have eR : rnF np nl nc len tim h z (c + 1) nd = (some x, false) := by rw [rnF, g1]
      rw [pr_cc g3, r41f g4.1, r71 (ok x (by rw [eR])) g4, eR]
      refine ⟨_, _, rfl, g5.toR.trans (frR.up (Or.inl rfl)), Or.inl ⟨x, rfl, rfl, ⟨?_, ?_, fun j q hq => ?_⟩, by rw [pr_upS, pr_uS]⟩⟩
      · rw [pr_upS, pr_uN (by decide)]; exact g4.1
      · rw [pr_upS, pr_uN (by decide)]; exact g4.2.1
      · rw [pr_upN (by decide), pr_upN (by decide)]; exact g4.2.2 j q hq
    · have eR : rnF np nl nc len tim h z (c + 1) nd = (none, true) := by rw [rnF, g1]
      have h1 : N1 0 17 = 0 := by rw [g3.1 0 (by decide)]; exact h0
      rw [pr_cc g2, r41n (Or.inl (by decide)), r71n h1 _ true ⟨fun _ => rfl, fun _ => by decide⟩, eR]
      exact ⟨_, _, rfl, g3.toR.trans (frR.up (Or.inl rfl)), Or.inr ⟨true, rfl, rfl, by rw [pr_upS, pr_uN (by decide)]; exact h1, by rw [pr_upS, pr_uS]⟩⟩
    · have eR : rnF np nl nc len tim h z (c + 1) nd = rnF np nl nc len tim h z c n := by rw [rnF, g1]
      have h1 : N1 0 17 = 0 := by rw [g5.1 0 (by decide)]; exact h0
      rw [eR] at ok
      obtain ⟨rr, N2, k1, k2, k3⟩ := ih (f + 1) n N1 (by omega) (by omega) (by omega) (yM.frN w g5 (Nat.le_refl _) y) h1 ok
      rw [pr_cc g3, show nI (12 - c) + 1 = nI (12 - c + 1) from nI_1 _, show 12 - c + 1 = 13 - c by omega, eR]
      exact ⟨rr, N2, k1, g5.toR.trans k2, k3⟩
end QJ
