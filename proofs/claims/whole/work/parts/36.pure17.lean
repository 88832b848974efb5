/-! THE PURE PART 17: the rounds of the class -/
theorem ev_rl {x : List (Nat × Nat × Option Nat)} {M : Nat → Nat → Int32} (hx : okB x) (m : mvC x M) : ∀ (c f j : Nat), c < f → j + c = x.length → h_S_countRelifts_4 f (nI (rlF x j)) (nI j) M = some (nI (rlF x x.length), M) := by
  have h22 := hx.1
  intro c
  induction c with
  | zero =>
    intro f j hf hj
    obtain ⟨f, rfl⟩ : ∃ g, f = g + 1 := ⟨f - 1, by omega⟩
    rw [h_S_countRelifts_4, m.1, if_pos (nI_le (by omega) (by omega)), show j = x.length by omega]
  | succ c ih =>
    intro f j hf hj
    obtain ⟨f, rfl⟩ : ∃ g, f = g + 1 := ⟨f - 1, by omega⟩
    obtain ⟨q, hq, hm⟩ := rl_at (x := x) (j := j) (by omega)
    have h2 := ih f (j + 1) (by omega) (by omega)
    rw [rlF_s, hq] at h2
    rw [h_S_countRelifts_4, m.1, if_neg (nI_ge (by omega) (by omega)), pr_rd rfl (by omega) (by omega), (m.2 j q hq).2.2, show nI j + 1 = nI (j + 1) from nI_1 j, show nI (rlF x j) + 1 = nI (rlF x j + 1) from nI_1 _]
    obtain ⟨p1, a, o⟩ := q
    cases o with
    | none => rw [if_pos (show oI none = -1 from rfl)]; exact h2
    | some b =>
      have hb := hx.2 _ hm b rfl
      rw [if_neg (show ¬ oI (some b) = -1 from pr_m1 (by omega))]
      exact h2
theorem ev_95 {M : Nat → Nat → Int32} (b : Bool) (hb : M 2 3 = bI b) : ∃ M', stay [2] M M' ∧ M' 2 0 = 1 ∧ M' 2 1 = bI (!b) ∧ (∀ j, j ≠ 0 → j ≠ 1 → M' 2 j = M 2 j) ∧ h_S_findBest_95 M = if M 2 2 = 0 then some (-1, M') else kb_cl (f_S_countRelifts M') (fun r N => some (r, N)) := by
  obtain ⟨M1, e1⟩ : ∃ M1, M1 = kb_up M 2 (upd (M 2) 0 (1 : Int32)) := ⟨_, rfl⟩
  have s1 : ∀ j, j ≠ 0 → M1 2 j = M 2 j := fun j hj => by rw [e1, pr_upS, pr_uN hj]
  obtain ⟨M2, e2⟩ : ∃ M2, M2 = kb_up M1 2 (upd (M1 2) 1 (bI (!b))) := ⟨_, rfl⟩
  have s2 : ∀ j, j ≠ 1 → M2 2 j = M1 2 j := fun j hj => by rw [e2, pr_upS, pr_uN hj]
  refine ⟨M2, fun c hc => ?_, ?_, ?_, fun j h0 h1 => ?_, ?_⟩
  · rw [e2, pr_upN (fun q => hc (by simp [q])), e1, pr_upN (fun q => hc (by simp [q]))]
  · rw [s2 0 (by decide), e1, pr_upS, pr_uS]
  · rw [e2, pr_upS, pr_uS]
  · rw [s2 j h1, s1 j h0]
  · unfold h_S_findBest_95
    rw [pr_st, ← e1, s1 3 (by decide), hb]
    have e113 : ∀ b, M2 = kb_up M1 2 (upd (M1 2) 1 (bI (!b))) → h_S_findBest_113 (bI (!b)) M1 = if M 2 2 = 0 then some (-1, M2) else kb_cl (f_S_countRelifts M2) (fun r N => some (r, N)) := by
      intro b e2
      unfold h_S_findBest_113
      rw [bI_bz, pr_st, ← e2, s2 2 (by decide), s1 2 (by decide)]
    cases b with
    | false => rw [if_pos (show bI false = 0 from rfl)]; exact e113 false e2
    | true => rw [if_neg (show ¬ bI true = 0 by decide)]; exact e113 true e2
theorem ev_22s {f : Nat} {u v : Int32} {M : Nat → Nat → Int32} (h : M 2 2 = 1 ∨ M 2 3 = 1 ∨ (12 : Int32) < v) : h_S_findBest_22 (f + 1) u v M = h_S_findBest_95 M := by
  rw [h_S_findBest_22]
  by_cases h5 : (12 : Int32) < v
  · rw [if_pos h5]
  · rw [if_neg h5]
    by_cases h2 : M 2 2 = 0
    · rw [if_pos h2]
      have h3 : M 2 3 = 1 := by
        rcases h with q | q | q
        · rw [h2] at q; exact absurd q (by decide)
        · exact q
        · exact absurd q h5
      rw [h3, if_neg (by decide)]
    · rw [if_neg h2]
section QK
variable {np nl nc : Nat} {len tim : Nat → Int32} {h : Nat → Nat} {z : Nat → Nat → Nat}
theorem mvV_ok : ∀ (x : List (Nat × Nat × Option Nat)) (s : (Nat → Nat) × (Nat → Nat → Nat)), np ≤ 4 → mvV np nl s x → ∀ q, q ∈ x → ∀ b, q.2.2 = some b → b < 4 := by
  intro x
  induction x with
  | nil => intro s _ _ q hq; cases hq
  | cons q0 l ih =>
    intro s h4 hv q hq b hb
    rcases List.mem_cons.mp hq with e | e
    · have := (hv.1.2.2 b (by rw [← e]; exact hb)).1; omega
    · exact ih (mvA s q0) h4 hv.2 q e b hb
def rnC (np nl : Nat) (h : Nat → Nat) (z : Nat → Nat → Nat) (R : Option (List (Nat × Nat × Option Nat)) × Bool) (rr : Int32) (M' : Nat → Nat → Int32) : Prop :=
  (∃ x, R = (some x, false) ∧ rr = nI (rlF x x.length) ∧ x.length ≤ 22 ∧ mvV np nl (h, z) x ∧ mvC x M' ∧ M' 2 2 = 1 ∧ M' 2 1 = 1) ∨ (∃ c, R = (none, c) ∧ rr = -1 ∧ M' 2 2 = 0 ∧ M' 2 1 = bI (!c))
/-- one round: goOn, takeBack; behind it the yard is as it was -/
theorem ev_round {lim nd f : Nat} {M0 : Nat → Nat → Int32} (w : yWF np nl nc tim h z) (hbd : bd tim h z np ≤ lim) (hlim : lim ≤ 12) (hnd : nd ≤ 100000) (y0 : yC np nl nc len tim h z M0) (m0 : mvC [] M0) (c30 : M0 2 3 = nI 0) (c40 : M0 2 4 = nI nd) (h2 : M0 2 2 = 0) :
    ∃ M', h_S_findBest_22 (f + 1) (nI (bd tim h z np)) (nI lim) M0 = h_S_findBest_22 f (nI (bd tim h z np)) (nI (lim + 1)) M' ∧ stay [2, 4, 5, 9, 10, 11, 12, 13] M0 M' ∧ yC np nl nc len tim h z M' ∧
      ((∃ x n, rdF np nl nc len tim h z lim nd = (some x, some n) ∧ x.length ≤ 22 ∧ mvV np nl (h, z) x ∧ mvC x M' ∧ M' 2 2 = 1 ∧ M' 2 3 = 0) ∨
       (∃ n, rdF np nl nc len tim h z lim nd = (none, some n) ∧ M' 2 2 = 0 ∧ M' 2 3 = 0 ∧ M' 2 4 = nI n ∧ M' 2 6 = 0) ∨
       (rdF np nl nc len tim h z lim nd = (none, none) ∧ M' 2 2 = 0 ∧ M' 2 3 = 1)) := by
  obtain ⟨M, eM⟩ : ∃ M, M = kb_up M0 2 (upd (M0 2) 5 (nI lim)) := ⟨_, rfl⟩
  have sM : ∀ j, j ≠ 5 → M 2 j = M0 2 j := fun j hj => by rw [eM, pr_upS, pr_uN hj]
  have tM : ∀ c, c ≠ 2 → M c = M0 c := fun c hc => by rw [eM, pr_upN hc]
  have sc : sC np nl nc len tim lim h z [] 0 nd M := by
    refine ⟨y0.stays (fun c hc => tM c (by omega)), ?_, ?_, ?_, ?_⟩
    · unfold mvC at m0 ⊢
      rw [sM 6 (by decide), tM 11 (by decide), tM 12 (by decide), tM 13 (by decide)]
      exact m0
    · rw [sM 3 (by decide)]; exact c30
    · rw [sM 4 (by decide)]; exact c40
    · rw [eM, pr_upS, pr_uS]
  have hnc := w.2.2.2.1
  have htot := tot_le w
  obtain ⟨rr, M1, f1, g1, e1⟩ := ev_goOn (np := np) (nl := nl) (nc := nc) (lim := lim) (len := len) (tim := tim) 14 0 h z [] nd M w (by omega) hlim (by simp; omega) hnd (by omega) sc
  have f1' : f_S_goOn 14 (0 : Int32) (nI (bd tim h z np)) M = some (rr, M1) := f1
  obtain ⟨l1, l2, l3, l4, l5, l6⟩ := lvF_ok (np := np) (nl := nl) (nc := nc) (tim := tim) (z := z) 10 w
  have eRd : (if isN (nwF tim (lvF tim z nc 10 h).1 z nc) = true then (some ([] ++ (lvF tim z nc 10 h).2), some nd) else sD np nl nc len tim lim 14 0 (lvF tim z nc 10 h).1 z ([] ++ (lvF tim z nc 10 h).2) nd) = rdF np nl nc len tim h z lim nd := rfl
  rw [eRd] at e1
  generalize hlv : lvF tim z nc 10 h = lv at *
  -- takeBack from some moves l
  have back : ∀ (l : List (Nat × Nat × Option Nat)) (cut n : Nat) (rr : Int32) (M1 : Nat → Nat → Int32), f_S_goOn 14 (0 : Int32) (nI (bd tim h z np)) M = some (rr, M1) → frC M M1 → (rr = 0 ∨ rr = 1) → l.length ≤ 22 → mvV np nl (h, z) l → sC np nl nc len tim lim (mvR (h, z) l).1 (mvR (h, z) l).2 l cut n M1 →
      ∃ M', h_S_findBest_22 (f + 1) (nI (bd tim h z np)) (nI lim) M0 = h_S_findBest_22 f (nI (bd tim h z np)) (nI (lim + 1)) M' ∧ stay [2, 4, 5, 9, 10, 11, 12, 13] M0 M' ∧ yC np nl nc len tim h z M' ∧ M' 2 2 = rr ∧ M' 2 3 = nI cut ∧ M' 2 4 = nI n ∧ (rr = 1 → mvC l M') ∧ (rr = 0 → M' 2 6 = 0) := by
    intro l cut n rr M1 f1 g1 hrr hl hv sc1
    obtain ⟨y1, m1, c3, c4, c5⟩ := sc1
    obtain ⟨M2, e2⟩ : ∃ M2, M2 = kb_up M1 2 (upd (M1 2) 2 rr) := ⟨_, rfl⟩
    have s2 : ∀ j, j ≠ 2 → M2 2 j = M1 2 j := fun j hj => by rw [e2, pr_upS, pr_uN hj]
    have t2 : ∀ c, c ≠ 2 → M2 c = M1 c := fun c hc => by rw [e2, pr_upN hc]
    have y2 : yC np nl nc len tim (mvR (h, z) l).1 (mvR (h, z) l).2 M2 := y1.stays (fun c hc => t2 c (by omega))
    have m2 : mvC l M2 := by
      unfold mvC at m1 ⊢
      rw [s2 6 (by decide), t2 11 (by decide), t2 12 (by decide), t2 13 (by decide)]
      exact m1
    obtain ⟨M3, f3, y3, k6, k7, k8⟩ := ev_takeBack (s0 := (h, z)) (mv0 := []) (len := len) w l.length l rfl kb_F M2 (by unfold kb_F; omega) (by simpa using hl) hv y2 (by simpa using m2)
    have f3' : f_S_takeBack (0 : Int32) M2 = some (0, M3) := f3
    have r3 : M3 2 2 = rr := by rw [k8 2 (by decide), e2, pr_upS, pr_uS]
    have q3 : ∀ j, j ≠ 6 → j ≠ 2 → M3 2 j = M1 2 j := fun j a b => by rw [k8 j a, s2 j b]
    have main : ∀ w0 : Int32, ∃ M', kb_st (kb_up M3 2 (upd (M3 2) 6 w0)) (fun M9 => h_S_findBest_22 f (nI (bd tim h z np)) (nI lim + 1) M9) = h_S_findBest_22 f (nI (bd tim h z np)) (nI (lim + 1)) M' ∧ stay [2, 4, 5, 9, 10, 11, 12, 13] M0 M' ∧ yC np nl nc len tim h z M' ∧ M' 2 2 = rr ∧ M' 2 3 = nI cut ∧ M' 2 4 = nI n ∧ M' 2 6 = w0 ∧ M' 11 = M1 11 ∧ M' 12 = M1 12 ∧ M' 13 = M1 13 := by
      intro w0
      rw [pr_st, show nI lim + 1 = nI (lim + 1) from nI_1 lim]
      obtain ⟨M4, e4⟩ : ∃ M4, M4 = kb_up M3 2 (upd (M3 2) 6 w0) := ⟨_, rfl⟩
      have s4 : ∀ j, j ≠ 6 → M4 2 j = M3 2 j := fun j hj => by rw [e4, pr_upS, pr_uN hj]
      have t4 : ∀ c, c ≠ 2 → M4 c = M3 c := fun c hc => by rw [e4, pr_upN hc]
      rw [← e4]
      refine ⟨M4, rfl, fun c hc => ?_, y3.stays (fun c hc => t4 c (by omega)), ?_, ?_, ?_, ?_, ?_, ?_, ?_⟩
      · rw [t4 c (fun q => hc (by simp [q])), k7 c (fun q => hc (by simp at q ⊢; omega)), t2 c (fun q => hc (by simp [q])), g1.1 c hc, tM c (fun q => hc (by simp [q]))]
      · rw [s4 2 (by decide), r3]
      · rw [s4 3 (by decide), q3 3 (by decide) (by decide), c3]
      · rw [s4 4 (by decide), q3 4 (by decide) (by decide), c4]
      · rw [e4, pr_upS, pr_uS]
      · rw [t4 11 (by decide), k7 11 (by decide), t2 11 (by decide)]
      · rw [t4 12 (by decide), k7 12 (by decide), t2 12 (by decide)]
      · rw [t4 13 (by decide), k7 13 (by decide), t2 13 (by decide)]
    have head : h_S_findBest_22 (f + 1) (nI (bd tim h z np)) (nI lim) M0 = if rr = 0 then (kb_st (kb_up M3 2 (upd (M3 2) 6 (0 : Int32))) (fun M9 => h_S_findBest_22 f (nI (bd tim h z np)) (nI lim + 1) M9)) else kb_st (kb_up M3 2 (upd (M3 2) 6 (M2 2 6))) (fun M9 => h_S_findBest_22 f (nI (bd tim h z np)) (nI lim + 1) M9) := by
      rw [h_S_findBest_22, if_neg (show ¬ (12 : Int32) < nI lim from nI_nlt (a := 12) (by omega) (by decide)), h2, if_pos rfl, c30, if_pos (show nI 0 = 0 from rfl), pr_st, ← eM, pr_cc f1]
      unfold kb_bz
      rw [if_pos hrr, pr_st, ← e2, pr_cc f3', r3]
    rcases hrr with rfl | rfl
    · rw [if_pos rfl] at head
      obtain ⟨M', a1, a2, a3, a5, a6, a7, a8, a9⟩ := main 0
      exact ⟨M', head.trans a1, a2, a3, a5, a6, a7, fun q => absurd q (by decide), fun _ => a8⟩
    · rw [if_neg (by decide)] at head
      obtain ⟨M', a1, a2, a3, a5, a6, a7, a8, a9, a10, a11⟩ := main (M2 2 6)
      refine ⟨M', head.trans a1, a2, a3, a5, a6, a7, fun _ => ?_, fun q => absurd q (by decide)⟩
      unfold mvC at m1 ⊢
      rw [a8, a9, a10, a11, s2 6 (by decide)]
      exact m1
  rcases e1 with ⟨l, n, eR, k0, k1, k2, k3⟩ | ⟨n, eR, k0, k1⟩ | ⟨n, eR, k0, k1⟩
  · obtain ⟨M', a1, a2, a3, a5, a6, a7, a8, a9⟩ := back l 0 n rr M1 f1' g1 (Or.inr k0) (by simpa using k1) k2 (by simpa using k3)
    exact ⟨M', a1, a2, a3, Or.inl ⟨l, n, by simpa using eR, by simpa using k1, k2, a8 k0, by rw [a5]; exact k0, by rw [a6]; rfl⟩⟩
  · obtain ⟨M', a1, a2, a3, a5, a6, a7, a8, a9⟩ := back lv.2 0 n rr M1 f1' g1 (Or.inl k0) (by omega) l3 (by rw [l2]; simpa using k1)
    exact ⟨M', a1, a2, a3, Or.inr (Or.inl ⟨n, eR, by rw [a5]; exact k0, by rw [a6]; rfl, a7, a9 k0⟩)⟩
  · obtain ⟨M', a1, a2, a3, a5, a6, a7, a8, a9⟩ := back lv.2 1 n rr M1 f1' g1 (Or.inl k0) (by omega) l3 (by rw [l2]; simpa using k1)
    exact ⟨M', a1, a2, a3, Or.inr (Or.inr ⟨eR, by rw [a5]; exact k0, by rw [a6]; rfl⟩)⟩
theorem ev_rounds (w : yWF np nl nc tim h z) : ∀ (c f nd : Nat) (M : Nat → Nat → Int32), c + 1 < f → bd tim h z np + c ≤ 13 → nd ≤ 100000 → yC np nl nc len tim h z M → mvC [] M → M 2 3 = nI 0 → M 2 4 = nI nd → M 2 2 = 0 →
    ∃ rr M', h_S_findBest_22 f (nI (bd tim h z np)) (nI (13 - c)) M = some (rr, M') ∧ stay [2, 4, 5, 9, 10, 11, 12, 13] M M' ∧ yC np nl nc len tim h z M' ∧ M' 2 0 = 1 ∧ rnC np nl h z (rnF np nl nc len tim h z c nd) rr M' := by
  intro c
  induction c with
  | zero =>
    intro f nd M hf hb hnd y0 m0 c30 c40 h2
    obtain ⟨f, rfl⟩ : ∃ g, f = g + 1 := ⟨f - 1, by omega⟩
    obtain ⟨M1, k1, k2, k3, k4, k5⟩ := ev_95 (M := M) false (by rw [c30]; rfl)
    rw [ev_22s (Or.inr (Or.inr (by decide))), k5, h2, if_pos rfl]
    exact ⟨_, M1, rfl, k1.mono (fun c hc => by simp at hc ⊢; omega), y0.stays (fun c hc => k1 c (by simp; omega)), k2, Or.inr ⟨false, rfl, rfl, by rw [k4 2 (by decide) (by decide)]; exact h2, k3⟩⟩
  | succ c ih =>
    intro f nd M hf hb hnd y0 m0 c30 c40 h2
    obtain ⟨f, rfl⟩ : ∃ g, f = g + 1 := ⟨f - 1, by omega⟩
    obtain ⟨f, rfl⟩ : ∃ g, f = g + 1 := ⟨f - 1, by omega⟩
    have e12 : 13 - (c + 1) = 12 - c := by omega
    have e13 : 12 - c + 1 = 13 - c := by omega
    rw [e12]
    obtain ⟨M1, a1, a2, a3, a5⟩ := ev_round (f := f + 1) w (show bd tim h z np ≤ 12 - c by omega) (by omega) hnd y0 m0 c30 c40 h2
    rw [a1, e13]
    rcases a5 with ⟨x, n, eR, b1, b2, b3, b4, b5⟩ | ⟨n, eR, b1, b2, b3, b4⟩ | ⟨eR, b1, b2⟩
    · have eF : rnF np nl nc len tim h z (c + 1) nd = (some x, false) := by rw [rnF, eR]
      obtain ⟨M2, k1, k2, k3, k4, k5⟩ := ev_95 (M := M1) false b5
      have m2 : mvC x M2 := by
        unfold mvC at b3 ⊢
        rw [k4 6 (by decide) (by decide), k1 11 (by decide), k1 12 (by decide), k1 13 (by decide)]
        exact b3
      have hok : okB x := ⟨b1, mvV_ok x (h, z) w.2.1 b2⟩
      have cr : f_S_countRelifts M2 = some (nI (rlF x x.length), M2) := ev_rl hok m2 x.length kb_F 0 (by unfold kb_F; omega) (by omega)
      rw [ev_22s (Or.inl b4), k5, b4, if_neg (by decide), pr_cc cr, eF]
      exact ⟨_, M2, rfl, a2.trans (k1.mono (fun c hc => by simp at hc ⊢; omega)), a3.stays (fun c hc => k1 c (by simp; omega)), k2, Or.inl ⟨x, rfl, rfl, b1, b2, m2, by rw [k4 2 (by decide) (by decide)]; exact b4, k3⟩⟩
    · have eF : rnF np nl nc len tim h z (c + 1) nd = rnF np nl nc len tim h z c n := by rw [rnF, eR]
      have hn : n ≤ nd := by
        have : (rdF np nl nc len tim h z (12 - c) nd).2 = some n := by rw [eR]
        unfold rdF at this
        split at this
        · cases this; exact Nat.le_refl _
        · exact sD_le _ _ _ _ _ _ _ this
      obtain ⟨rr, M2, k1, k2, k3, k4, k5⟩ := ih (f + 1) n M1 (by omega) (by omega) (by omega) a3 ⟨by rw [b4]; rfl, fun j q hq => by cases hq⟩ (by rw [b2]; rfl) b3 b1
      rw [eF]
      exact ⟨rr, M2, k1, a2.trans k2, k3, k4, k5⟩
    · have eF : rnF np nl nc len tim h z (c + 1) nd = (none, true) := by rw [rnF, eR]
      obtain ⟨M2, k1, k2, k3, k4, k5⟩ := ev_95 (M := M1) true b2
      rw [ev_22s (Or.inr (Or.inl b2)), k5, b1, if_pos rfl, eF]
      exact ⟨_, M2, rfl, a2.trans (k1.mono (fun c hc => by simp at hc ⊢; omega)), a3.stays (fun c hc => k1 c (by simp; omega)), k2, Or.inr ⟨true, rfl, rfl, by rw [k4 2 (by decide) (by decide)]; exact b1, k3⟩⟩
end QK
