/-! THE PURE PART 7: what can leave leaves -/
def topk (h : Nat → Nat) (z : Nat → Nat → Nat) (p : Nat) : Option Nat := (List.range 4).find? fun k => decide (0 < h k) && (z k (h k - 1) == p)
def lvF (tim : Nat → Int32) (z : Nat → Nat → Nat) (nc : Nat) : Nat → (Nat → Nat) → (Nat → Nat) × List (Nat × Nat × Option Nat)
  | 0, h => (h, [])
  | n + 1, h => match nwF tim h z nc with
    | none => (h, [])
    | some p => match topk h z p with
      | none => (h, [])
      | some k => ((lvF tim z nc n (hU h k (h k - 1))).1, (p, k, none) :: (lvF tim z nc n (hU h k (h k - 1))).2)
def tot (h : Nat → Nat) (np : Nat) : Nat := sumN h np
section QA
variable {np nl nc : Nat} {len tim : Nat → Int32} {h : Nat → Nat} {z : Nat → Nat → Nat} {M : Nat → Nat → Int32}
theorem topk_some {p k : Nat} (e : topk h z p = some k) : k < 4 ∧ 0 < h k ∧ z k (h k - 1) = p := by
  unfold topk at e
  have h1 := List.find?_some e
  have h2 := List.mem_of_find?_eq_some e
  simp only [Bool.and_eq_true, decide_eq_true_eq, beq_iff_eq] at h1
  exact ⟨List.mem_range.mp h2, h1.1, h1.2⟩
theorem topk_none (w : yWF np nl nc tim h z) {p : Nat} (e : topk h z p = none) {k : Nat} (hk : 0 < h k) : z k (h k - 1) ≠ p := by
  unfold topk at e
  rw [List.find?_eq_none] at e
  have := e k (List.mem_range.mpr (Nat.lt_of_lt_of_le (w.lt4 hk) w.2.1))
  simpa [hk] using this
theorem topk_eq (w : yWF np nl nc tim h z) {k : Nat} (hk : 0 < h k) : topk h z (z k (h k - 1)) = some k := by
  cases e : topk h z (z k (h k - 1)) with
  | none => exact absurd rfl (topk_none w e hk)
  | some j =>
    obtain ⟨_, h1, h2⟩ := topk_some e
    rw [(w.2.2.2.2.2.2.2.1 j (h j - 1) k (h k - 1) (by omega) (by omega) h2).1]
theorem tot_pop (K k : Nat) (hk : k < K) (h0 : 0 < h k) : tot (hU h k (h k - 1)) K + 1 = tot h K := by
  have h1 := sumN_upd (f := h) (g := hU h k (h k - 1)) K k hk (fun i _ q => hU_n q)
  rw [hU_s] at h1
  unfold tot
  omega
theorem tot_push (K k : Nat) (hk : k < K) : tot (hU h k (h k + 1)) K = tot h K + 1 := by
  have h1 := sumN_upd (f := h) (g := hU h k (h k + 1)) K k hk (fun i _ q => hU_n q)
  rw [hU_s] at h1
  unfold tot
  omega
theorem tot_le (w : yWF np nl nc tim h z) : tot h np ≤ nc := by
  have h1 := sum_places w np (fun q => bN (lcB h z q)) (fun p hp q => by
    rw [lcB_g w (fun k i hi => q k i (w.lt4 hi) hi)]; rfl)
  have h2 : sumN (fun k => sumN (fun i => bN (lcB h z (z k i))) (h k)) np = tot h np := by
    refine sumN_congr np (fun k _ => ?_)
    have : ∀ n, sumN (fun _ => 1) n = n := by
      intro n
      induction n with
      | zero => rfl
      | succ n ih => show sumN (fun _ => 1) n + 1 = n + 1; rw [ih]
    rw [sumN_congr (h k) (f := fun i => bN (lcB h z (z k i))) (g := fun _ => 1) (fun i hi => by show bN (lcB h z (z k i)) = 1; rw [lcB_t w hi]; rfl), this]
  have h3 : ∀ n, sumN (fun q => bN (lcB h z q)) n ≤ n := by
    intro n
    induction n with
    | zero => exact Nat.le_refl _
    | succ n ih =>
      have : ∀ b, bN b ≤ 1 := by decide
      have := this (lcB h z n)
      show sumN (fun q => bN (lcB h z q)) n + bN (lcB h z n) ≤ n + 1
      omega
  rw [← h2, ← h1]
  exact h3 nc
/-- all that is to be said of what leaves -/
theorem lvF_ok : ∀ (n : Nat) {h : Nat → Nat}, yWF np nl nc tim h z → yWF np nl nc tim (lvF tim z nc n h).1 z ∧ mvR (h, z) (lvF tim z nc n h).2 = ((lvF tim z nc n h).1, z) ∧ mvV np nl (h, z) (lvF tim z nc n h).2 ∧ bd tim (lvF tim z nc n h).1 z np = bd tim h z np ∧ (lvF tim z nc n h).2.length + tot (lvF tim z nc n h).1 np = tot h np ∧ (tot h np ≤ n → ∀ p, nwF tim (lvF tim z nc n h).1 z nc = some p → topk (lvF tim z nc n h).1 z p = none) := by
  intro n
  induction n with
  | zero =>
    intro h w
    refine ⟨w, rfl, trivial, rfl, Nat.zero_add _, fun h0 p e => ?_⟩
    have h1 := (nwF_lt e).2.1
    obtain ⟨k, i, hk, hi, -⟩ := lcB_e h1
    have := sumN_ge h np k (w.lt4 hi)
    have : h k ≤ tot h np := this
    have hi : i < h k := hi
    omega
  | succ n ih =>
    intro h w
    cases e : nwF tim h z nc with
    | none =>
      have el : lvF tim z nc (n + 1) h = (h, []) := by unfold lvF; rw [e]
      rw [el]
      exact ⟨w, rfl, trivial, rfl, Nat.zero_add _, fun _ p q => by rw [e] at q; cases q⟩
    | some p =>
      cases e2 : topk h z p with
      | none =>
        have el : lvF tim z nc (n + 1) h = (h, []) := by unfold lvF; rw [e]; simp only [e2]
        rw [el]
        exact ⟨w, rfl, trivial, rfl, Nat.zero_add _, fun _ p' q => by rw [e] at q; cases q; exact e2⟩
      | some k =>
        have el : lvF tim z nc (n + 1) h = ((lvF tim z nc n (hU h k (h k - 1))).1, (p, k, none) :: (lvF tim z nc n (hU h k (h k - 1))).2) := by
          conv => lhs; unfold lvF
          rw [e]; simp only [e2]
        obtain ⟨_, hk, hp⟩ := topk_some e2
        obtain ⟨i1, i2, i3, i4, i5, i6⟩ := ih (w.pop k)
        have ht := tot_pop np k (w.lt4 hk) hk
        rw [el]
        refine ⟨i1, i2, ⟨⟨hk, hp, fun b q => by cases q⟩, i3⟩, ?_, ?_, fun h0 => i6 (by omega)⟩
        · rw [i4]; exact bd_leave w hk (by rw [e, hp])
        · show (lvF tim z nc n (hU h k (h k - 1))).2.length + 1 + tot (lvF tim z nc n (hU h k (h k - 1))).1 np = tot h np
          omega
theorem ev_lvl : ∀ (c f i : Nat) (mv : List (Nat × Nat × Option Nat)) (h : Nat → Nat) (M : Nat → Nat → Int32), c < f → i + c = 10 → yWF np nl nc tim h z → yC np nl nc len tim h z M → mvC mv M → mv.length + tot h np ≤ 22 →
    ∃ M', h_S_letLeave_2 f (nI i) M = some (0, M') ∧ yC np nl nc len tim (lvF tim z nc c h).1 z M' ∧ mvC (mv ++ (lvF tim z nc c h).2) M' ∧ stay [2, 4, 9, 10, 11, 12, 13] M M' ∧ stay2 M M' := by
  intro c
  induction c with
  | zero =>
    intro f i mv h M hf hi w y m _
    obtain ⟨f, rfl⟩ : ∃ g, f = g + 1 := ⟨f - 1, by omega⟩
    obtain rfl : i = 10 := by omega
    rw [h_S_letLeave_2, if_pos (by decide)]
    refine ⟨M, rfl, y, ?_, fun _ _ => rfl, fun _ _ => rfl⟩
    show mvC (mv ++ []) M
    rw [List.append_nil]; exact m
  | succ c ih =>
    intro f i mv h M hf hi w y m hln
    obtain ⟨f, rfl⟩ : ∃ g, f = g + 1 := ⟨f - 1, by omega⟩
    rw [h_S_letLeave_2, if_neg (show ¬ (10 : Int32) ≤ nI i from nI_ge (b := 10) (by omega) (by decide)), pr_cc (ev_nextWanted y w)]
    cases e : nwF tim h z nc with
    | none =>
      have el : lvF tim z nc (c + 1) h = (h, []) := by unfold lvF; rw [e]
      rw [if_pos (show oI none = -1 from rfl), el]
      refine ⟨M, rfl, y, ?_, fun _ _ => rfl, fun _ _ => rfl⟩
      show mvC (mv ++ []) M
      rw [List.append_nil]; exact m
    | some p =>
      have hp := nwF_lt e
      have hn := w.2.2.2.1
      obtain ⟨k, j, hk4, hj, hz⟩ := lcB_e hp.2.1
      rw [if_neg (show ¬ oI (some p) = -1 from pr_m1 (by omega)), show oI (some p) = nI p from rfl, ← hz, pr_cc (ev_isTop y w hj)]
      by_cases ht : j + 1 = h k
      · have hj2 : j = h k - 1 := by omega
        have h0 : 0 < h k := by omega
        rw [decide_eq_true ht, if_neg (show ¬ bI true = 0 by decide), pr_rd rfl (by rw [hz]; omega) (by omega), (y.2.2.2.2.2.2.2.1 k j hj).1]
        have hto := tot_pop np k (w.lt4 hj) h0
        obtain ⟨M1, f1, m1, s1, t1⟩ := ev_note m (by omega) (z k j) k none
        rw [show (-1 : Int32) = oI none from rfl, pr_cc f1]
        have y1 : yC np nl nc len tim h z M1 := y.stays (fun c hc => s1 c (by simp; omega))
        obtain ⟨M2, f2, y2, s2⟩ := ev_takeOff y1 w h0
        rw [hj2, pr_cc f2]
        have m2 : mvC (mv ++ [(z k j, k, none)]) M2 := m1.stays (fun c hc => s2 c (by simp; omega))
        obtain ⟨M3, f3, y3, m3, s3, t3⟩ := ih f (i + 1) (mv ++ [(z k j, k, none)]) (hU h k (h k - 1)) M2 (by omega) (by omega) (w.pop k) y2 m2 (by rw [List.length_append]; simp; omega)
        have e2 : topk h z p = some k := by rw [← hz, hj2]; exact topk_eq w h0
        have el : lvF tim z nc (c + 1) h = ((lvF tim z nc c (hU h k (h k - 1))).1, (p, k, none) :: (lvF tim z nc c (hU h k (h k - 1))).2) := by
          conv => lhs; unfold lvF
          rw [e]; simp only [e2]
        refine ⟨M3, ?_, ?_, ?_, ?_, ?_⟩
        · rw [show nI i + 1 = nI (i + 1) from nI_1 i]; exact f3
        · rw [el]; exact y3
        · rw [el]
          rw [List.append_assoc, hz] at m3
          exact m3
        · intro c hc
          rw [s3 c hc, s2 c (fun q => hc (by simp at q ⊢; omega)), s1 c (fun q => hc (by simp at q ⊢; omega))]
        · exact (t1.trans (s2.two (by decide))).trans t3
      · rw [decide_eq_false ht, if_pos (show bI false = 0 from rfl)]
        have e2 : topk h z p = none := by
          cases q : topk h z p with
          | none => rfl
          | some k' =>
            obtain ⟨_, q1, q2⟩ := topk_some q
            obtain ⟨rfl, r⟩ := w.2.2.2.2.2.2.2.1 k j k' (h k' - 1) hj (by omega) (by rw [hz, q2])
            omega
        have el : lvF tim z nc (c + 1) h = (h, []) := by unfold lvF; rw [e]; simp only [e2]
        rw [el]
        refine ⟨M, rfl, y, ?_, fun _ _ => rfl, fun _ _ => rfl⟩
        show mvC (mv ++ []) M
        rw [List.append_nil]; exact m
theorem ev_letLeave (w : yWF np nl nc tim h z) (y : yC np nl nc len tim h z M) {mv : List (Nat × Nat × Option Nat)} (m : mvC mv M) (hl : mv.length + tot h np ≤ 22) :
    ∃ M', f_S_letLeave M = some (0, M') ∧ yC np nl nc len tim (lvF tim z nc 10 h).1 z M' ∧ mvC (mv ++ (lvF tim z nc 10 h).2) M' ∧ stay [2, 4, 9, 10, 11, 12, 13] M M' ∧ stay2 M M' := by
  unfold f_S_letLeave
  exact ev_lvl 10 kb_F 0 mv h M (by unfold kb_F; omega) (by omega) w y m hl
end QA
