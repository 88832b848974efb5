/-! THE PURE PART 24: tidy -/
def fstQ (Q : Nat → Bool) : Nat → Nat → Option Nat
  | 0, _ => none
  | c + 1, i => if Q i = true then some i else fstQ Q c (i + 1)
theorem fstQ_some {Q : Nat → Bool} {b : Nat} : ∀ (c i : Nat), fstQ Q c i = some b → Q b = true ∧ i ≤ b ∧ b < i + c := by
  intro c
  induction c with
  | zero => intro i e; cases e
  | succ c ih =>
    intro i e
    unfold fstQ at e
    split at e
    · rename_i q
      cases e
      exact ⟨q, Nat.le_refl _, by omega⟩
    · obtain ⟨a1, a2, a3⟩ := ih (i + 1) e
      exact ⟨a1, by omega, by omega⟩
def tdQ (nl : Nat) (len tim : Nat → Int32) (h : Nat → Nat) (z : Nat → Nat → Nat) (a p to : Nat) : Bool := !(decide (to = a)) && (tkB nl len h z to (len p) && !(wb tim (z to) (tu tim p) 0 (h to)))
def plN (k2 : Int32 → (Nat → Nat → Int32) → Option (Int32 × (Nat → Nat → Int32))) (a : Nat) (N : Nat → Nat → Int32) (o : Option Nat) : Option (Int32 × (Nat → Nat → Int32)) := match o with
  | some b => kb_cl (f_M_lift (0 : Int32) (nI a) (nI b) N) (fun r12 M13 => some ((1 : Int32), M13))
  | none => k2 (nI a + 1) N
section QQ
variable {np nl nc : Nat} {len tim : Nat → Int32} {h : Nat → Nat} {z : Nat → Nat → Nat} {M N : Nat → Nat → Int32}
theorem ev_place (y : yC np nl nc len tim h z M) (w : yWF np nl nc tim h z) {a : Nat} (ha : 0 < h a) : ∀ (c f i : Nat), c < f → i + c = np → h_Y_tidyPlaceFor_2 f (nI (z a (h a - 1))) (nI i) M = some (oI (fstQ (tdQ nl len tim h z a (z a (h a - 1))) c i), M) := by
  have h4 := w.2.1
  have hn := w.2.2.2.1
  have hap := w.lt4 ha
  have hp := w.2.2.2.2.2.2.1 a (h a - 1) (by omega)
  have e9 := (y.2.2.2.2.2.2.2.1 a (h a - 1) (by omega)).1
  intro c
  induction c with
  | zero =>
    intro f i hf hi
    obtain ⟨f, rfl⟩ : ∃ g, f = g + 1 := ⟨f - 1, by omega⟩
    rw [h_Y_tidyPlaceFor_2, y.1, if_pos (nI_le (by omega) (by omega))]
    rfl
  | succ c ih =>
    intro f i hf hi
    obtain ⟨f, rfl⟩ : ∃ g, f = g + 1 := ⟨f - 1, by omega⟩
    have h2 := ih f (i + 1) (by omega) (by omega)
    rw [h_Y_tidyPlaceFor_2, y.1, if_neg (nI_ge (by omega) (by omega)), pr_rd rfl (by omega) (by omega), e9, show nI i + 1 = nI (i + 1) from nI_1 i]
    unfold fstQ
    by_cases e : i = a
    · have hQ : tdQ nl len tim h z a (z a (h a - 1)) i = false := by unfold tdQ; simp [e]
      rw [if_pos (by rw [e]), hQ, if_neg (by decide)]
      exact h2
    · rw [if_neg (fun q => e ((nI_eq (by omega) (by omega)).mp q)), pr_rd rfl (by omega) (by omega), y.2.2.2.2.2.1 _ hp, pr_cc (ev_takes y w (by omega) _)]
      cases ht : tkB nl len h z i (len (z a (h a - 1))) with
      | false =>
        have hQ : tdQ nl len tim h z a (z a (h a - 1)) i = false := by unfold tdQ; rw [ht]; simp
        rw [if_pos (show bI false = 0 from rfl), hQ, if_neg (by decide)]
        exact h2
      | true =>
        rw [if_neg (show ¬ bI true = 0 by decide), pr_cc (ev_wouldBlockOn y w hp (by omega))]
        cases hb : wb tim (z i) (tu tim (z a (h a - 1))) 0 (h i) with
        | true =>
          have hQ : tdQ nl len tim h z a (z a (h a - 1)) i = false := by unfold tdQ; rw [hb]; simp
          rw [if_neg (show ¬ bI true = 0 by decide), hQ, if_neg (by decide)]
          exact h2
        | false =>
          have hQ : tdQ nl len tim h z a (z a (h a - 1)) i = true := by unfold tdQ; rw [hb, ht, decide_eq_false e]; rfl
          rw [if_pos (show bI false = 0 from rfl), hQ, if_pos rfl]
          rfl
theorem em_place (y : yM np nl nc len tim 0 h z N) (w : yWF np nl nc tim h z) (k2 : Int32 → (Nat → Nat → Int32) → Option (Int32 × (Nat → Nat → Int32))) {a : Nat} (ha : 0 < h a) : ∀ (c f i : Nat), c < f → i + c = np → h_M_tidies_44 k2 f (nI a) (nI (z a (h a - 1))) (nI i) N = plN k2 a N (fstQ (tdQ nl len tim h z a (z a (h a - 1))) c i) := by
  have h4 := w.2.1
  have hn := w.2.2.2.1
  have hap := w.lt4 ha
  have hp := w.2.2.2.2.2.2.1 a (h a - 1) (by omega)
  intro c
  induction c with
  | zero =>
    intro f i hf hi
    obtain ⟨f, rfl⟩ : ∃ g, f = g + 1 := ⟨f - 1, by omega⟩
    rw [h_M_tidies_44, y.1, if_pos (nI_le (by omega) (by omega))]
    rfl
  | succ c ih =>
    intro f i hf hi
    obtain ⟨f, rfl⟩ : ∃ g, f = g + 1 := ⟨f - 1, by omega⟩
    have h2 := ih f (i + 1) (by omega) (by omega)
    have e6 : N 6 i = nI (h i) := by
      have := y.2.2.2.1 i (by omega)
      rw [show 4 * 0 + i = i by omega] at this
      exact this
    rw [h_M_tidies_44, y.1, if_neg (nI_ge (by omega) (by omega)), show nI i + 1 = nI (i + 1) from nI_1 i]
    unfold fstQ
    by_cases e : i = a
    · have hQ : tdQ nl len tim h z a (z a (h a - 1)) i = false := by unfold tdQ; simp [e]
      rw [if_pos (by rw [e]), hQ, if_neg (by decide)]
      exact h2
    · have et : f_M_takes (0 : Int32) (nI i) (len (z a (h a - 1))) N = some (bI (tkB nl len h z i (len (z a (h a - 1)))), N) := em_takes (d := 0) y w (by omega) (by omega) _
      rw [if_neg (fun q => e ((nI_eq (by omega) (by omega)).mp q)), pr_rd rfl (by omega) (by omega), y.2.2.2.2.2.1 _ hp, pr_cc et]
      cases ht : tkB nl len h z i (len (z a (h a - 1))) with
      | false =>
        have hQ : tdQ nl len tim h z a (z a (h a - 1)) i = false := by unfold tdQ; rw [ht]; simp
        rw [if_pos (show bI false = 0 from rfl), hQ, if_neg (by decide)]
        exact h2
      | true =>
        have eb : f_M_blocksOn (0 : Int32) (nI i) (nI (h i)) (nI (z a (h a - 1))) N = some (bI (wb tim (z i) (tu tim (z a (h a - 1))) 0 (h i)), N) := em_blocksOn (d := 0) y w (by omega) (by omega) hp (Nat.le_refl _)
        rw [if_neg (show ¬ bI true = 0 by decide), pr_rd rfl (by omega) (by omega), e6, pr_cc eb]
        cases hb : wb tim (z i) (tu tim (z a (h a - 1))) 0 (h i) with
        | true =>
          have hQ : tdQ nl len tim h z a (z a (h a - 1)) i = false := by unfold tdQ; rw [hb]; simp
          rw [if_neg (show ¬ bI true = 0 by decide), hQ, if_neg (by decide)]
          exact h2
        | false =>
          have hQ : tdQ nl len tim h z a (z a (h a - 1)) i = true := by unfold tdQ; rw [hb, ht, decide_eq_false e]; rfl
          rw [if_pos (show bI false = 0 from rfl), hQ, if_pos rfl]
          rfl
theorem td_outer (y : yC np nl nc len tim h z M) (m : yM np nl nc len tim 0 h z N) (w : yWF np nl nc tim h z) : ∀ (c f f' i : Nat), c < f → c < f' → i + c = np →
    (h_Y_tidyOnce_2 f (nI i) M = some (0, M) ∧ h_M_tidies_2 f' (nI i) N = some (0, N)) ∨
    ∃ a b, mvOk np nl (h, z) (z a (h a - 1), a, some b) ∧ h_Y_tidyOnce_2 f (nI i) M = kb_cl (f_Y_relift (nI (z a (h a - 1))) (nI b) M) (fun r7 M8 => some ((1 : Int32), M8)) ∧ h_M_tidies_2 f' (nI i) N = kb_cl (f_M_lift (0 : Int32) (nI a) (nI b) N) (fun r12 M13 => some ((1 : Int32), M13)) := by
  have h4 := w.2.1
  have hn := w.2.2.2.1
  intro c
  induction c with
  | zero =>
    intro f f' i hf hf' hi
    obtain ⟨f, rfl⟩ : ∃ g, f = g + 1 := ⟨f - 1, by omega⟩
    obtain ⟨f', rfl⟩ : ∃ g, f' = g + 1 := ⟨f' - 1, by omega⟩
    rw [h_Y_tidyOnce_2, h_M_tidies_2, y.1, m.1, if_pos (nI_le (by omega) (by omega)), if_pos (nI_le (by omega) (by omega))]
    exact Or.inl ⟨rfl, rfl⟩
  | succ c ih =>
    intro f f' i hf hf' hi
    obtain ⟨f, rfl⟩ : ∃ g, f = g + 1 := ⟨f - 1, by omega⟩
    obtain ⟨f', rfl⟩ : ∃ g, f' = g + 1 := ⟨f' - 1, by omega⟩
    have h2 := ih f f' (i + 1) (by omega) (by omega) (by omega)
    have et : f_M_topOf (0 : Int32) (nI i) N = some (if h i = 0 then -1 else nI (z i (h i - 1)), N) := em_topOf (d := 0) m w (by omega) (by omega)
    rw [h_Y_tidyOnce_2, h_M_tidies_2, y.1, m.1, if_neg (nI_ge (by omega) (by omega)), if_neg (nI_ge (by omega) (by omega)), pr_cc (ev_topOf y w (by omega)), pr_cc et, show nI i + 1 = nI (i + 1) from nI_1 i]
    by_cases h0 : h i = 0
    · rw [if_pos h0, if_pos rfl, if_pos (by decide)]
      exact h2
    · have hpos : 0 < h i := by omega
      have hp := w.2.2.2.2.2.2.1 i (h i - 1) (by omega)
      have hli := w.2.2.2.2.1 i
      have hl5 := w.2.2.1
      have e6 : N 6 i = nI (h i) := by
        have := m.2.2.2.1 i (by omega)
        rw [show 4 * 0 + i = i by omega] at this
        exact this
      have e1 : nI (h i) - 1 = nI (h i - 1) := pk_sub (b := 1) (by omega)
      have eb : f_M_blocksOn (0 : Int32) (nI i) (nI (h i - 1)) (nI (z i (h i - 1))) N = some (bI (wb tim (z i) (tu tim (z i (h i - 1))) 0 (h i - 1)), N) := em_blocksOn (d := 0) m w (by omega) (by omega) hp (by omega)
      rw [if_neg h0, if_neg (pr_m1 (by omega)), pr_cc (ev_isBlocking y w hp), bpB_t w (by omega), if_neg (nI_pos (by omega)), pr_rd rfl (by omega) (by omega), e6, e1, pr_cc eb]
      cases hb : wb tim (z i) (tu tim (z i (h i - 1))) 0 (h i - 1) with
      | false =>
        rw [if_pos (show bI false = 0 from rfl), if_pos (show bI false = 0 from rfl)]
        exact h2
      | true =>
        have eC : f_Y_tidyPlaceFor (nI (z i (h i - 1))) M = some (oI (fstQ (tdQ nl len tim h z i (z i (h i - 1))) np 0), M) := ev_place y w hpos np kb_F 0 (by unfold kb_F; omega) (by omega)
        have eM : h_M_tidies_44 (fun y0 N => h_M_tidies_2 f' y0 N) kb_F (nI i) (nI (z i (h i - 1))) (0 : Int32) N = plN (fun y0 N => h_M_tidies_2 f' y0 N) i N (fstQ (tdQ nl len tim h z i (z i (h i - 1))) np 0) := em_place m w _ hpos np kb_F 0 (by unfold kb_F; omega) (by omega)
        rw [if_neg (show ¬ bI true = 0 by decide), if_neg (show ¬ bI true = 0 by decide), pr_cc eC, eM]
        cases e : fstQ (tdQ nl len tim h z i (z i (h i - 1))) np 0 with
        | none =>
          rw [if_pos (show oI none = -1 from rfl)]
          show (_ ∧ h_M_tidies_2 f' (nI i + 1) N = _) ∨ (∃ a b, _ ∧ _ ∧ h_M_tidies_2 f' (nI i + 1) N = _)
          rw [show nI i + 1 = nI (i + 1) from nI_1 i]
          exact h2
        | some b =>
          obtain ⟨q1, -, q3⟩ := fstQ_some np 0 e
          rw [if_neg (show ¬ oI (some b) = -1 from pr_m1 (by omega))]
          refine Or.inr ⟨i, b, ⟨hpos, rfl, fun b' q => ?_⟩, rfl, rfl⟩
          cases q
          unfold tdQ at q1
          simp only [Bool.and_eq_true, Bool.not_eq_true', decide_eq_false_iff_not] at q1
          refine ⟨by omega, q1.1, ?_⟩
          have := q1.2.1
          unfold tkB at this
          rw [Bool.and_eq_true, decide_eq_true_eq] at this
          exact this.1
theorem td_once (y : yC np nl nc len tim h z M) (m : yM np nl nc len tim 0 h z N) (w : yWF np nl nc tim h z) :
    (f_Y_tidyOnce M = some (0, M) ∧ f_M_tidies N = some (0, N)) ∨
    ∃ h' z' M' N', f_Y_tidyOnce M = some (1, M') ∧ f_M_tidies N = some (1, N') ∧ yWF np nl nc tim h' z' ∧ yC np nl nc len tim h' z' M' ∧ yM np nl nc len tim 0 h' z' N' ∧ stay [4, 5, 9, 10] M M' ∧ stay [5, 6] N N' := by
  rcases td_outer y m w np kb_F kb_F 0 (by have := w.2.1; unfold kb_F; omega) (by have := w.2.1; unfold kb_F; omega) (by omega) with q | ⟨a, b, ok, e1, e2⟩
  · exact Or.inl q
  · obtain ⟨M1, f1, y1, s1⟩ := ev_relift w y ok
    obtain ⟨N1, g1, m1, k5, k6, kc⟩ := em_lift m w (by omega) ok
    have g1' : f_M_lift (0 : Int32) (nI a) (nI b) N = some (0, N1) := g1
    rw [pr_cc f1] at e1
    rw [pr_cc g1'] at e2
    exact Or.inr ⟨_, _, M1, N1, e1, e2, mvA_wf w ok, y1, m1, s1, fun c hc => kc c hc⟩
end QQ
section QR
variable {np nl nc n : Nat} {len tim : Nat → Int32}
theorem td_loop (hn20 : n ≤ 20) : ∀ (c f f' j : Nat) (h : Nat → Nat) (z : Nat → Nat → Nat) (M N : Nat → Nat → Int32), c < f → c < f' → j + c = n → yWF np nl nc tim h z → yC np nl nc len tim h z M → yM np nl nc len tim 0 h z N →
    ∃ r h' z' M' N', h_P_tidy_22 f (nI n) (nI j) M = some (nI r, M') ∧ h_M_tidy_20 f' (nI n) (nI j) N = some (nI r, N') ∧ yWF np nl nc tim h' z' ∧ yC np nl nc len tim h' z' M' ∧ yM np nl nc len tim 0 h' z' N' ∧ stay [2, 4, 5, 9, 10] M M' ∧ stay [0, 5, 6] N N' ∧ (∀ i, i ≠ 15 → i ≠ 17 → N' 0 i = N 0 i) ∧ j ≤ r ∧
      ((r = 0 ∧ M' = M ∧ N' = N ∧ h' = h ∧ z' = z) ∨ (M' 2 0 = 0 ∧ M' 2 2 = 0 ∧ N' 0 15 = 0 ∧ N' 0 17 = 0)) := by
  -- the end of both loops
  have fin : ∀ (j : Nat) (h : Nat → Nat) (z : Nat → Nat → Nat) (M N : Nat → Nat → Int32), j ≤ 20 → yWF np nl nc tim h z → yC np nl nc len tim h z M → yM np nl nc len tim 0 h z N →
      ∃ h' z' M' N', (if nI j ≤ (0 : Int32) then some (nI j, M) else kb_cl (f_S_forget M) (fun r3 M4 => some (nI j, M4))) = some (nI j, M') ∧ (if nI j ≤ (0 : Int32) then some (nI j, N) else kb_cl (f_M_changed N) (fun r5 M6 => some (nI j, M6))) = some (nI j, N') ∧ yWF np nl nc tim h' z' ∧ yC np nl nc len tim h' z' M' ∧ yM np nl nc len tim 0 h' z' N' ∧ stay [2, 4, 5, 9, 10] M M' ∧ stay [0, 5, 6] N N' ∧ (∀ i, i ≠ 15 → i ≠ 17 → N' 0 i = N 0 i) ∧ j ≤ j ∧
      ((j = 0 ∧ M' = M ∧ N' = N ∧ h' = h ∧ z' = z) ∨ (M' 2 0 = 0 ∧ M' 2 2 = 0 ∧ N' 0 15 = 0 ∧ N' 0 17 = 0)) := by
    intro j h z M N hj w y m
    by_cases h0 : j = 0
    · subst h0
      rw [if_pos (by decide), if_pos (by decide)]
      exact ⟨h, z, M, N, rfl, rfl, w, y, m, fun _ _ => rfl, fun _ _ => rfl, fun _ _ _ => rfl, Nat.le_refl _, Or.inl ⟨rfl, rfl, rfl, rfl, rfl⟩⟩
    · obtain ⟨M1, f1, s1, z0, z2, -⟩ := ev_forget M
      obtain ⟨N1, g1, q1, n15, n17, nj⟩ := em_changed N
      rw [if_neg (show ¬ nI j ≤ (0 : Int32) from nI_ge (a := 0) (by omega) (by omega)), if_neg (show ¬ nI j ≤ (0 : Int32) from nI_ge (a := 0) (by omega) (by omega)), pr_cc f1, pr_cc g1]
      exact ⟨h, z, M1, N1, rfl, rfl, w, y.stays (fun c hc => s1 c (by simp; omega)), yM.stM w (q1.stM nj) m, s1.mono (fun c hc => by simp at hc ⊢; omega), fun c hc => q1 c (fun q => hc (by simp at q ⊢; omega)), nj, Nat.le_refl _, Or.inr ⟨z0, z2, n15, n17⟩⟩
  intro c
  induction c with
  | zero =>
    intro f f' j h z M N hf hf' hj w y m
    obtain ⟨f, rfl⟩ : ∃ g, f = g + 1 := ⟨f - 1, by omega⟩
    obtain ⟨f', rfl⟩ : ∃ g, f' = g + 1 := ⟨f' - 1, by omega⟩
    rw [h_P_tidy_22, h_M_tidy_20, if_pos (nI_le (by omega) (by omega)), if_pos (nI_le (by omega) (by omega))]
    exact ⟨j, fin j h z M N (by omega) w y m⟩
  | succ c ih =>
    intro f f' j h z M N hf hf' hj w y m
    obtain ⟨f, rfl⟩ : ∃ g, f = g + 1 := ⟨f - 1, by omega⟩
    obtain ⟨f', rfl⟩ : ∃ g, f' = g + 1 := ⟨f' - 1, by omega⟩
    rw [h_P_tidy_22, h_M_tidy_20, if_neg (nI_ge (by omega) (by omega)), if_neg (nI_ge (by omega) (by omega))]
    rcases td_once y m w with ⟨e1, e2⟩ | ⟨h1, z1, M1, N1, e1, e2, w1, y1, m1, s1, q1⟩
    · rw [pr_cc e1, pr_cc e2, if_pos rfl, if_pos rfl]
      exact ⟨j, fin j h z M N (by omega) w y m⟩
    · rw [pr_cc e1, pr_cc e2, if_neg one0, if_neg one0, show nI j + 1 = nI (j + 1) from nI_1 j]
      obtain ⟨r, h2, z2, M2, N2, a1, a2, a3, a4, a5, a6, a7, a8, a9, a10⟩ := ih f f' (j + 1) h1 z1 M1 N1 (by omega) (by omega) (by omega) w1 y1 m1
      refine ⟨r, h2, z2, M2, N2, a1, a2, a3, a4, a5, (s1.mono (fun c hc => by simp at hc ⊢; omega)).trans a6, fun c hc => (a7 c hc).trans (q1 c (fun q => hc (by simp at q ⊢; omega))), fun i a b => by rw [a8 i a b, q1 0 (by decide)], by omega, ?_⟩
      rcases a10 with q | q
      · omega
      · exact Or.inr q
end QR
theorem o_tidy : op_tidy Inv := by
  intro x1 M N i
  obtain ⟨np, nl, nc, nw, len, tim, h, z, w, y, m, g, s⟩ := id i
  by_cases hx : (0 : Int32) ≤ x1 ∧ x1 ≤ 20
  · obtain ⟨n, -, hn20, rfl⟩ := (in_rng (a := 0) (b := 20) (by omega) (by omega)).mp hx
    have m0 : yM np nl nc len tim 0 h z (sc0 N 0) := yM.stM w stM.sc0 m
    obtain ⟨r, h', z', M', N', a1, a2, a3, a4, a5, a6, a7, a8, a9, a10⟩ := td_loop hn20 n kb_F kb_F 0 h z M (sc0 N 0) (by unfold kb_F; omega) (by unfold kb_F; omega) (by omega) w y m0
    have a1' : h_P_tidy_22 kb_F (nI n) (0 : Int32) M = some (nI r, M') := a1
    have a2' : h_M_tidy_20 kb_F (nI n) (0 : Int32) (sc0 N 0) = some (nI r, N') := a2
    refine ⟨0, nI r, M', nI r, N', Or.inl ⟨?_, rfl⟩, ?_, by rw [a8 0 (by decide) (by decide), sc0_0], fun _ => rfl, np, nl, nc, nw, len, tim, h', z', a3, a4, a5, ?_, ?_⟩
    · unfold f_P_tidy
      rw [pr_cc (wi_y hx), if_neg one0, a1']
    · unfold f_M_tidy
      rw [pr_cc (mi_y hx), pr_cc (goes0 one0 one0 one0), if_neg one0, a2']
    · exact g.stays (fun c hc => a6 c (by simp; omega)) (by rw [a8 19 (by decide) (by decide), sc0_j (by decide)]) (fun c hc => by rw [a7 c (by simp; omega), sc0_c (by omega)])
    · rcases a10 with ⟨-, rfl, rfl, rfl, rfl⟩ | ⟨b1, b2, b3, b4⟩
      · exact s.stays (fun _ _ => rfl) (fun j hj => sc0_j (by omega)) (fun c hc => sc0_c (by omega))
      · exact sr.none b1 b2 b3 b4
  · refine ⟨nI (0 + 1), 0, M, 0, sc0 N 1, oc_no 0 3 rfl ?_, ?_, sc0_0, fun q => absurd q (by decide), i.code 1⟩
    · unfold x_P_tidy
      rw [pr_cc (wi_n hx), if_pos rfl]
    · unfold f_M_tidy
      rw [pr_cc (mi_n hx), pr_cc (goes1 rfl), if_pos rfl]
