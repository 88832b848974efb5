/-! THE PURE PART 8: the reference's leaving, at a depth of its search -/
def mvM (mv : List (Nat × Nat × Option Nat)) (d : Nat) (N : Nat → Nat → Int32) : Prop := N 11 d = nI mv.length ∧ ∀ j q, mv[j]? = some q → N 9 j = nI q.1 ∧ N 10 j = oI q.2.2
/-- what a depth's work leaves as it was: other cells, other depths, the moves that were there -/
def frM (d ml : Nat) (N N' : Nat → Nat → Int32) : Prop := (∀ c, c ∉ [6, 7, 9, 10, 11] → N' c = N c) ∧ (∀ j, (j < 4 * d ∨ 4 * d + 4 ≤ j) → N' 6 j = N 6 j) ∧ (∀ e, e ≠ d → N' 7 e = N 7 e ∧ N' 11 e = N 11 e) ∧ (∀ j, j < ml → N' 9 j = N 9 j ∧ N' 10 j = N 10 j)
theorem frM.rf {d ml : Nat} {N : Nat → Nat → Int32} : frM d ml N N := ⟨fun _ _ => rfl, fun _ _ => rfl, fun _ _ => ⟨rfl, rfl⟩, fun _ _ => ⟨rfl, rfl⟩⟩
theorem frM.trans {d ml ml' : Nat} {A B C : Nat → Nat → Int32} (h1 : frM d ml A B) (h2 : frM d ml' B C) (hm : ml ≤ ml') : frM d ml A C :=
  ⟨fun c hc => (h2.1 c hc).trans (h1.1 c hc), fun j hj => (h2.2.1 j hj).trans (h1.2.1 j hj), fun e he => ⟨((h2.2.2.1 e he).1).trans (h1.2.2.1 e he).1, ((h2.2.2.1 e he).2).trans (h1.2.2.1 e he).2⟩, fun j hj => ⟨((h2.2.2.2 j (by omega)).1).trans (h1.2.2.2 j hj).1, ((h2.2.2.2 j (by omega)).2).trans (h1.2.2.2 j hj).2⟩⟩
section QB
variable {np nl nc d : Nat} {len tim : Nat → Int32} {h : Nat → Nat} {z : Nat → Nat → Nat} {N : Nat → Nat → Int32}
theorem em_says {mv : List (Nat × Nat × Option Nat)} (m : mvM mv d N) (hd : d < 15) (hl : mv.length < 40) (p a : Nat) (b : Option Nat) : ∃ N', f_M_says (nI d) (nI p) (oI b) N = some (0, N') ∧ mvM (mv ++ [(p, a, b)]) d N' ∧ (∀ c, c ∉ [9, 10, 11] → N' c = N c) ∧ (∀ e, e ≠ d → N' 11 e = N 11 e) ∧ (∀ j, j < mv.length → N' 9 j = N 9 j ∧ N' 10 j = N 10 j) := by
  unfold f_M_says
  obtain ⟨m1, m2⟩ := m
  rw [pr_rd rfl hd (by omega), m1, pr_wr rfl hl (by omega), pr_rd rfl hd (by omega)]
  rw [pr_wr (m := mv.length) (by rw [pr_upN (by decide)]; exact m1) hl (by omega), pr_rd rfl hd (by omega), pr_wr rfl hd (by omega)]
  refine ⟨_, rfl, ⟨?_, ?_⟩, ?_, ?_, ?_⟩
  · rw [pr_upS, pr_uS, pr_upN (by decide), pr_upN (by decide), m1, List.length_append]
    exact nI_1 _
  · intro j q hq
    rw [pr_upN (by decide), pr_upN (by decide), pr_upS, pr_upN (by decide), pr_upS, pr_upN (by decide)]
    rcases Nat.lt_or_ge j mv.length with r | r
    · rw [List.getElem?_append_left r] at hq
      rw [pr_uN (by omega), pr_uN (by omega)]
      exact m2 j q hq
    · rw [List.getElem?_append_right r] at hq
      have e : j - mv.length = 0 := by
        rcases Nat.eq_zero_or_pos (j - mv.length) with s | s
        · exact s
        · rw [List.getElem?_eq_none (by simp; omega)] at hq; cases hq
      rw [e] at hq
      cases hq
      obtain rfl : j = mv.length := by omega
      rw [pr_uS, pr_uS]
      exact ⟨rfl, rfl⟩
  · intro c hc
    simp only [List.mem_cons, List.not_mem_nil, or_false, not_or] at hc
    rw [pr_upN hc.2.2, pr_upN hc.2.1, pr_upN hc.1]
  · intro e he
    rw [pr_upS, pr_uN he, pr_upN (by decide), pr_upN (by decide)]
  · intro j hj
    rw [pr_upN (by decide), pr_upN (by decide), pr_upS, pr_upN (by decide), pr_upS, pr_upN (by decide), pr_uN (by omega), pr_uN (by omega)]
    exact ⟨rfl, rfl⟩
theorem lcB_pop (w : yWF np nl nc tim h z) {k : Nat} (hk : 0 < h k) (p : Nat) : lcB (hU h k (h k - 1)) z p = (lcB h z p && !(decide (p = z k (h k - 1)))) := by
  by_cases q : p = z k (h k - 1)
  · rw [decide_eq_true q, Bool.not_true, Bool.and_false, q]
    exact lcB_g (w.pop k) (gone_pop w hk)
  · rw [decide_eq_false q, Bool.not_false, Bool.and_true]
    cases e : lcB h z p with
    | true =>
      obtain ⟨j, i, _, hi, ez⟩ := lcB_e e
      rw [← ez]
      refine lcB_t (w.pop k) (k := j) (i := i) ?_
      by_cases r : j = k
      · subst r
        rw [hU_s]
        rcases Nat.lt_or_ge i (h j - 1) with s | s
        · exact s
        · exact absurd (by rw [← ez, show i = h j - 1 by omega]) q
      · rw [hU_n r]; exact hi
    | false =>
      refine lcB_g (w.pop k) (fun j i hi => lcB_f w e j i (Nat.lt_of_lt_of_le hi ?_))
      by_cases r : j = k
      · subst r; rw [hU_s]; omega
      · rw [hU_n r]; exact Nat.le_refl _
/-- a leaving, in the reference's memory -/
theorem em_pop (y : yM np nl nc len tim d h z N) (w : yWF np nl nc tim h z) (hd : d < 15) {k : Nat} (hk : 0 < h k) {N1 N2 : Nat → Nat → Int32} (e1 : N1 = kb_up N 6 (upd (N 6) (4 * d + k) (nI (h k) - 1))) (e2 : N2 = kb_up N1 7 (upd (N1 7) d (N 7 d ||| ((1 : Int32) <<< (nI (z k (h k - 1)) &&& 31))))) : yM np nl nc len tim d (hU h k (h k - 1)) z N2 := by
  have hk4 : k < 4 := Nat.lt_of_lt_of_le (w.lt4 hk) w.2.1
  have hn := w.2.2.2.1
  have hl := w.2.2.2.2.1 k
  have hl5 := w.2.2.1
  have hp := w.2.2.2.2.2.2.1 k (h k - 1) (by omega)
  obtain ⟨a1, a2, a3, a4, a5, a6, a7, g, g1, g2, g3⟩ := y
  have hg : g < 1024 := Nat.lt_of_lt_of_le g1 (Nat.pow_le_pow_right (by omega) hn)
  have hle : ∀ j, hU h k (h k - 1) j ≤ h j := by
    intro j
    by_cases e : j = k
    · subst e; rw [hU_s]; omega
    · rw [hU_n e]; exact Nat.le_refl _
  have s : ∀ c, c ≠ 6 → c ≠ 7 → N2 c = N c := fun c h6 h7 => by rw [e2, pr_upN h7, e1, pr_upN h6]
  refine ⟨by rw [s 0 (by decide) (by decide)]; exact a1, by rw [s 0 (by decide) (by decide)]; exact a2, by rw [s 0 (by decide) (by decide)]; exact a3, fun j hj => ?_, fun j i hj hi => by rw [s 5 (by decide) (by decide)]; exact a5 j i hj (Nat.lt_of_lt_of_le hi (hle j)), fun p hp => by rw [s 2 (by decide) (by decide)]; exact a6 p hp, fun p hp => by rw [s 3 (by decide) (by decide)]; exact a7 p hp, g ||| 2 ^ (z k (h k - 1)), ?_, ?_, ?_⟩
  · rw [e2, pr_upN (by decide), e1, pr_upS]
    by_cases q : j = k
    · subst q
      rw [pr_uS, hU_s, show (1 : Int32) = nI 1 from rfl, pk_sub (by omega)]
    · rw [pr_uN (by omega), hU_n q]; exact a4 j hj
  · exact Nat.or_lt_two_pow g1 (Nat.pow_lt_pow_right (by omega) hp)
  · rw [e2, pr_upS, pr_uS, g2]
    exact bit_or _ (by omega) g hg
  · intro p hp2
    rw [Nat.testBit_or, g3 p hp2, Nat.testBit_two_pow, lcB_pop w hk]
    by_cases q : p = z k (h k - 1)
    · rw [decide_eq_true q, decide_eq_true q.symm]; cases lcB h z p <;> rfl
    · rw [decide_eq_false q, decide_eq_false (fun r => q r.symm)]; cases lcB h z p <;> rfl
def atI (o : Option Nat) (i : Nat) : Int32 := match o with
  | none => -1
  | some k => if k < i then nI k else -1
/-- the inner loop of the reference's leaving: it finds the pile -/
theorem em_lvi (y : yM np nl nc len tim d h z N) (w : yWF np nl nc tim h z) (hd : d < 15) (p : Nat) (hp : p < nc) (kk : Int32 → (Nat → Nat → Int32) → Option (Int32 × (Nat → Nat → Int32))) (o : Option Nat) (ho : o = topk h z p) : ∀ (c f i : Nat), c < f → i + c = np →
    h_M_leaves_17 kk f (nI d) (nI p) (atI o i) (nI i) N = h_M_leaves_17 kk (f - c) (nI d) (nI p) (oI o) (nI np) N := by
  have h4 := w.2.1
  have hn := w.2.2.2.1
  intro c
  induction c with
  | zero =>
    intro f i hf hi
    obtain rfl : i = np := by omega
    have e : atI o i = oI o := by
      cases o with
      | none => rfl
      | some k =>
        obtain ⟨_, h0, _⟩ := topk_some ho.symm
        show (if k < i then nI k else -1) = nI k
        rw [if_pos (w.lt4 h0)]
    rw [e]; rfl
  | succ c ih =>
    intro f i hf hi
    obtain ⟨f, rfl⟩ : ∃ g, f = g + 1 := ⟨f - 1, by omega⟩
    have hi4 : i < 4 := by omega
    have hih := ih f (i + 1) (by omega) (by omega)
    have hl := w.2.2.2.2.1 i
    have hl5 := w.2.2.1
    rw [show f + 1 - (c + 1) = f - c by omega, ← hih]
    conv => lhs; rw [h_M_leaves_17, y.1, if_neg (nI_ge (show i < np by omega) (by omega)), pr_cc (em_topOf y w hd hi4)]
    have e1 : nI i + 1 = nI (i + 1) := nI_1 i
    by_cases h0 : h i = 0
    · rw [if_pos h0, if_neg (fun q => pr_m1 (show p < 2 ^ 31 by omega) q.symm), e1]
      have : atI o i = atI o (i + 1) := by
        cases o with
        | none => rfl
        | some k =>
          obtain ⟨_, q0, _⟩ := topk_some ho.symm
          show (if k < i then nI k else -1) = if k < i + 1 then nI k else -1
          have : k ≠ i := fun q => by rw [q] at q0; omega
          by_cases r : k < i
          · rw [if_pos r, if_pos (by omega)]
          · rw [if_neg r, if_neg (by omega)]
      rw [this]
    · rw [if_neg h0]
      have hz := w.2.2.2.2.2.2.1 i (h i - 1) (by omega)
      by_cases q : z i (h i - 1) = p
      · have ht : topk h z p = some i := by rw [← q]; exact topk_eq w (by omega)
        rw [if_pos (by rw [q]), e1]
        rw [ho, ht]
        show h_M_leaves_17 kk f (nI d) (nI p) (nI i) (nI (i + 1)) N = h_M_leaves_17 kk f (nI d) (nI p) (if i < i + 1 then nI i else -1) (nI (i + 1)) N
        rw [if_pos (by omega)]
      · rw [if_neg (fun r => q ((nI_eq (by omega) (by omega)).mp r)), e1]
        have : atI o i = atI o (i + 1) := by
          cases o with
          | none => rfl
          | some k =>
            obtain ⟨_, q0, q1⟩ := topk_some ho.symm
            show (if k < i then nI k else -1) = if k < i + 1 then nI k else -1
            have : k ≠ i := fun r => by rw [r] at q1; exact q q1
            by_cases r : k < i
            · rw [if_pos r, if_pos (by omega)]
            · rw [if_neg r, if_neg (by omega)]
        rw [this]
def isN (o : Option Nat) : Bool := match o with
  | none => true
  | some _ => false
theorem em_leaves : ∀ (n f : Nat) (mv : List (Nat × Nat × Option Nat)) (h : Nat → Nat) (N : Nat → Nat → Int32), n < f → tot h np ≤ n → d < 15 → yWF np nl nc tim h z → yM np nl nc len tim d h z N → mvM mv d N → mv.length + tot h np ≤ 40 →
    ∃ N', h_M_leaves_0 f (nI d) N = some (bI (isN (nwF tim (lvF tim z nc n h).1 z nc)), N') ∧ yM np nl nc len tim d (lvF tim z nc n h).1 z N' ∧ mvM (mv ++ (lvF tim z nc n h).2) d N' ∧ frM d mv.length N N' := by
  intro n
  induction n with
  | zero =>
    intro f mv h N hf ht hd w y m _
    obtain ⟨f, rfl⟩ : ∃ g, f = g + 1 := ⟨f - 1, by omega⟩
    have e : nwF tim h z nc = none := by
      cases e : nwF tim h z nc with
      | none => rfl
      | some p =>
        obtain ⟨k, i, hk, hi, -⟩ := lcB_e (nwF_lt e).2.1
        have h1 : h k ≤ tot h np := sumN_ge h np k (w.lt4 hi)
        omega
    rw [h_M_leaves_0, pr_cc (em_nextWanted y w hd), e, if_neg (by decide)]
    refine ⟨N, ?_, y, ?_, frM.rf⟩
    · show some ((1 : Int32), N) = some (bI (isN (nwF tim h z nc)), N)
      rw [e]; rfl
    · show mvM (mv ++ []) d N
      rw [List.append_nil]; exact m
  | succ n ih =>
    intro f mv h N hf ht hd w y m hln
    obtain ⟨f, rfl⟩ : ∃ g, f = g + 1 := ⟨f - 1, by omega⟩
    rw [h_M_leaves_0, pr_cc (em_nextWanted y w hd)]
    cases e : nwF tim h z nc with
    | none =>
      have el : lvF tim z nc (n + 1) h = (h, []) := by unfold lvF; rw [e]
      rw [if_neg (by decide), el]
      refine ⟨N, ?_, y, ?_, frM.rf⟩
      · show some ((1 : Int32), N) = some (bI (isN (nwF tim h z nc)), N)
        rw [e]; rfl
      · show mvM (mv ++ []) d N
        rw [List.append_nil]; exact m
    | some p =>
      have hp := nwF_lt e
      have hn := w.2.2.2.1
      have h4 := w.2.1
      rw [if_pos (show (0 : Int32) ≤ oI (some p) from nI_pos' (by omega)), show oI (some p) = nI p from rfl]
      have hin := em_lvi y w hd p hp.1 (fun y0 N => h_M_leaves_0 f y0 N) (topk h z p) rfl np kb_F 0 (by unfold kb_F; omega) (by omega)
      have e0 : atI (topk h z p) 0 = -1 := by
        cases topk h z p with
        | none => rfl
        | some k => show (if k < 0 then nI k else -1) = -1; rw [if_neg (Nat.not_lt_zero k)]
      rw [e0] at hin
      rw [show (0 : Int32) = nI 0 from rfl, hin]
      obtain ⟨f2, hf2⟩ : ∃ g, kb_F - np = g + 1 := ⟨kb_F - np - 1, by unfold kb_F; omega⟩
      rw [hf2, h_M_leaves_17, y.1, if_pos (nI_le (Nat.le_refl _) (by omega))]
      cases e2 : topk h z p with
      | none =>
        have el : lvF tim z nc (n + 1) h = (h, []) := by unfold lvF; rw [e]; simp only [e2]
        rw [if_neg (show ¬ (0 : Int32) ≤ oI none by decide), el]
        refine ⟨N, ?_, y, ?_, frM.rf⟩
        · show some ((0 : Int32), N) = some (bI (isN (nwF tim h z nc)), N)
          rw [e]; rfl
        · show mvM (mv ++ []) d N
          rw [List.append_nil]; exact m
      | some k =>
        obtain ⟨hk4, h0, hz⟩ := topk_some e2
        have hl := w.2.2.2.2.1 k
        have hl5 := w.2.2.1
        have el : lvF tim z nc (n + 1) h = ((lvF tim z nc n (hU h k (h k - 1))).1, (p, k, none) :: (lvF tim z nc n (hU h k (h k - 1))).2) := by
          conv => lhs; unfold lvF
          rw [e]; simp only [e2]
        have hto := tot_pop np k (w.lt4 h0) h0
        rw [if_pos (show (0 : Int32) ≤ oI (some k) from nI_pos' (by omega)), show oI (some k) = nI k from rfl, pr_rd (em_hi d k) (by omega) (by omega), y.2.2.2.1 k hk4, pr_wr (em_hi d k) (by omega) (by omega), pr_rd rfl hd (by omega), pr_wr rfl hd (by omega)]
        obtain ⟨N1, eN1⟩ : ∃ N1, N1 = kb_up N 6 (upd (N 6) (4 * d + k) (nI (h k) - 1)) := ⟨_, rfl⟩
        rw [← eN1]
        have e71 : N1 7 d = N 7 d := by rw [eN1, pr_upN (by decide)]
        rw [e71]
        obtain ⟨N2, eN2⟩ : ∃ N2, N2 = kb_up N1 7 (upd (N1 7) d (N 7 d ||| ((1 : Int32) <<< (nI p &&& 31)))) := ⟨_, rfl⟩
        rw [← eN2]
        have y2 : yM np nl nc len tim d (hU h k (h k - 1)) z N2 := em_pop (N2 := N2) y w hd h0 eN1 (by rw [hz]; exact eN2)
        have s2 : ∀ c, c ≠ 6 → c ≠ 7 → N2 c = N c := fun c h6 h7 => by rw [eN2, pr_upN h7, eN1, pr_upN h6]
        have m2 : mvM mv d N2 := by
          refine ⟨by rw [s2 11 (by decide) (by decide)]; exact m.1, fun j q hq => ?_⟩
          rw [s2 9 (by decide) (by decide), s2 10 (by decide) (by decide)]
          exact m.2 j q hq
        obtain ⟨N3, f3, m3, s3, t3, u3⟩ := em_says m2 hd (by omega) p k none
        rw [show (-1 : Int32) = oI none from rfl, pr_cc f3]
        have y3 : yM np nl nc len tim d (hU h k (h k - 1)) z N3 := by
          unfold yM at y2 ⊢
          rw [s3 0 (by decide), s3 6 (by decide), s3 5 (by decide), s3 2 (by decide), s3 3 (by decide), s3 7 (by decide)]
          exact y2
        obtain ⟨N4, f4, y4, m4, r4⟩ := ih f (mv ++ [(p, k, none)]) (hU h k (h k - 1)) N3 (by omega) (by omega) hd (w.pop k) y3 m3 (by rw [List.length_append]; simp; omega)
        refine ⟨N4, ?_, ?_, ?_, ?_⟩
        · rw [el]; exact f4
        · rw [el]; exact y4
        · rw [el]
          rw [List.append_assoc] at m4
          exact m4
        · have r3 : frM d mv.length N N3 := by
            refine ⟨fun c hc => ?_, fun j hj => ?_, fun e he => ⟨?_, ?_⟩, fun j hj => ?_⟩
            · rw [s3 c (fun q => hc (by simp at q ⊢; omega)), s2 c (fun q => hc (by simp [q])) (fun q => hc (by simp [q]))]
            · rw [s3 6 (by decide), eN2, pr_upN (by decide), eN1, pr_upS, pr_uN (by omega)]
            · rw [s3 7 (by decide), eN2, pr_upS, pr_uN he, eN1, pr_upN (by decide)]
            · rw [t3 e he, s2 11 (by decide) (by decide)]
            · rw [(u3 j hj).1, (u3 j hj).2, s2 9 (by decide) (by decide), s2 10 (by decide) (by decide)]
              exact ⟨rfl, rfl⟩
          exact r3.trans r4 (by rw [List.length_append]; omega)
end QB
