/-! THE PURE PART 14: the reference's lift at a depth -/
section QH
variable {np nl nc d : Nat} {len tim : Nat → Int32} {h : Nat → Nat} {z : Nat → Nat → Nat} {N : Nat → Nat → Int32}
theorem lcB_push (w : yWF np nl nc tim h z) {k p : Nat} (hk : k < np) (hl : h k < nl) (hp : p < nc) (hg : gone h z p) (q : Nat) : lcB (hU h k (h k + 1)) (zU z k (h k) p) q = (lcB h z q || decide (q = p)) := by
  have w2 := w.push hk hl hp hg
  by_cases e : q = p
  · rw [decide_eq_true e, Bool.or_true, e]
    have := lcB_t w2 (k := k) (i := h k) (by rw [hU_s]; omega)
    rw [zU_s] at this
    exact this
  · rw [decide_eq_false e, Bool.or_false]
    cases e2 : lcB h z q with
    | true =>
      obtain ⟨j, i, _, hi, ez⟩ := lcB_e e2
      have hne : ¬ (j = k ∧ i = h k) := fun r => by rw [r.1, r.2] at hi; exact Nat.lt_irrefl _ hi
      have := lcB_t w2 (k := j) (i := i) (by
        by_cases r : j = k
        · subst r; rw [hU_s]; omega
        · rw [hU_n r]; exact hi)
      rw [zU_n hne, ez] at this
      exact this
    | false =>
      refine lcB_g w2 (fun j i hi ez => ?_)
      by_cases r : j = k ∧ i = h k
      · rw [r.1, r.2, zU_s] at ez; exact e ez.symm
      · rw [zU_n r] at ez
        refine lcB_f w e2 j i ?_ ez
        by_cases s : j = k
        · subst s
          rw [hU_s] at hi
          rcases Nat.lt_or_ge i (h j) with t | t
          · exact t
          · exact absurd ⟨rfl, by omega⟩ r
        · rw [hU_n s] at hi; exact hi
theorem lcB_relift (w : yWF np nl nc tim h z) {a b : Nat} (ok : mvOk np nl (h, z) (z a (h a - 1), a, some b)) (q : Nat) : lcB (mvA (h, z) (z a (h a - 1), a, some b)).1 (mvA (h, z) (z a (h a - 1), a, some b)).2 q = lcB h z q := by
  have h0 : 0 < h a := ok.1
  obtain ⟨b1, b2, b3⟩ := ok.2.2 b rfl
  have b2 : b ≠ a := b2
  have b3 : h b < nl := b3
  have e : hU h a (h a - 1) b = h b := hU_n b2
  have h1 := lcB_push (w.pop a) (k := b) (p := z a (h a - 1)) b1 (by rw [e]; exact b3) (w.2.2.2.2.2.2.1 a _ (by omega)) (gone_pop w h0) q
  rw [e, lcB_pop w h0] at h1
  refine h1.trans ?_
  by_cases s : q = z a (h a - 1)
  · rw [decide_eq_true s, Bool.or_true, s, lcB_t w (show h a - 1 < h a by omega)]
  · rw [decide_eq_false s, Bool.not_false, Bool.and_true, Bool.or_false]
theorem em_lift (y : yM np nl nc len tim d h z N) (w : yWF np nl nc tim h z) (hd : d < 15) {a b : Nat} (ok : mvOk np nl (h, z) (z a (h a - 1), a, some b)) : ∃ N', f_M_lift (nI d) (nI a) (nI b) N = some (0, N') ∧ yM np nl nc len tim d (mvA (h, z) (z a (h a - 1), a, some b)).1 (mvA (h, z) (z a (h a - 1), a, some b)).2 N' ∧ (∀ j, (j < 20 * d ∨ 20 * d + 20 ≤ j) → N' 5 j = N 5 j) ∧ (∀ j, (j < 4 * d ∨ 4 * d + 4 ≤ j) → N' 6 j = N 6 j) ∧ (∀ c, c ∉ [5, 6] → N' c = N c) := by
  have lr := lcB_relift w ok
  have h0 : 0 < h a := ok.1
  obtain ⟨b1, b2, b3⟩ := ok.2.2 b rfl
  have b2 : b ≠ a := b2
  have b3 : h b < nl := b3
  have h4 := w.2.1
  have hl := w.2.2.2.2.1
  have hl5 := w.2.2.1
  have ha4 : a < 4 := Nat.lt_of_lt_of_le (w.lt4 h0) h4
  have hb4 : b < 4 := by omega
  have hla := hl a
  obtain ⟨a1, a2, a3, a4, a5, a6, a7, g, g1, g2, g3⟩ := id y
  unfold f_M_lift
  rw [pr_cc (em_topOf y w hd ha4), if_neg (show ¬ h a = 0 by omega), pr_rd (em_hi d a) (by omega) (by omega), a4 a ha4, pr_wr (em_hi d a) (by omega) (by omega)]
  obtain ⟨N1, e1⟩ : ∃ N1, N1 = kb_up N 6 (upd (N 6) (4 * d + a) (nI (h a) - 1)) := ⟨_, rfl⟩
  rw [← e1]
  have n1b : N1 6 (4 * d + b) = nI (h b) := by rw [e1, pr_upS, pr_uN (by omega)]; exact a4 b hb4
  rw [pr_rd (em_hi d b) (by omega) (by omega), n1b, pr_cc (em_cell d b (h b) N1), pr_wr rfl (by omega) (by omega)]
  obtain ⟨N2, e2⟩ : ∃ N2, N2 = kb_up N1 5 (upd (N1 5) (20 * d + 5 * b + h b) (nI (z a (h a - 1)))) := ⟨_, rfl⟩
  rw [← e2]
  have n2b : N2 6 (4 * d + b) = nI (h b) := by rw [e2, pr_upN (by decide)]; exact n1b
  rw [pr_rd (em_hi d b) (by omega) (by omega), n2b, pr_wr (em_hi d b) (by omega) (by omega)]
  obtain ⟨N3, e3⟩ : ∃ N3, N3 = kb_up N2 6 (upd (N2 6) (4 * d + b) (nI (h b) + 1)) := ⟨_, rfl⟩
  rw [← e3]
  have s : ∀ c, c ≠ 5 → c ≠ 6 → N3 c = N c := fun c h5 h6 => by rw [e3, pr_upN h6, e2, pr_upN h5, e1, pr_upN h6]
  have n35 : ∀ j, j ≠ 20 * d + 5 * b + h b → N3 5 j = N 5 j := fun j hj => by rw [e3, pr_upN (by decide), e2, pr_upS, pr_uN hj, e1, pr_upN (by decide)]
  have n36 : ∀ j, j ≠ 4 * d + b → j ≠ 4 * d + a → N3 6 j = N 6 j := fun j h1 h2 => by rw [e3, pr_upS, pr_uN h1, e2, pr_upN (by decide), e1, pr_upS, pr_uN h2]
  refine ⟨N3, rfl, ⟨by rw [s 0 (by decide) (by decide)]; exact a1, by rw [s 0 (by decide) (by decide)]; exact a2, by rw [s 0 (by decide) (by decide)]; exact a3, fun k hk => ?_, fun k i hk hi => ?_, fun p hp => by rw [s 2 (by decide) (by decide)]; exact a6 p hp, fun p hp => by rw [s 3 (by decide) (by decide)]; exact a7 p hp, g, g1, by rw [s 7 (by decide) (by decide)]; exact g2, fun p hp => by rw [lr p]; exact g3 p hp⟩, fun j hj => ?_, fun j hj => ?_, fun c hc => ?_⟩
  · show N3 6 (4 * d + k) = nI (hU (hU h a (h a - 1)) b (h b + 1) k)
    by_cases q : k = b
    · subst q
      rw [hU_s, e3, pr_upS, pr_uS]
      exact nI_1 _
    · rw [hU_n q]
      by_cases r : k = a
      · subst r
        rw [hU_s, e3, pr_upS, pr_uN (by omega), e2, pr_upN (by decide), e1, pr_upS, pr_uS, show (1 : Int32) = nI 1 from rfl, pk_sub (by omega)]
      · rw [hU_n r, n36 _ (by omega) (by omega)]; exact a4 k hk
  · show N3 5 (20 * d + 5 * k + i) = nI (zU z b (h b) (z a (h a - 1)) k i)
    have hi : i < hU (hU h a (h a - 1)) b (h b + 1) k := hi
    by_cases q : k = b ∧ i = h b
    · rw [q.1, q.2, zU_s, e3, pr_upN (by decide), e2, pr_upS, pr_uS]
    · rw [zU_n q]
      have hi2 : i < h k := by
        by_cases r : k = b
        · subst r
          rw [hU_s] at hi
          rcases Nat.lt_or_ge i (h k) with t | t
          · exact t
          · exact absurd ⟨rfl, by omega⟩ q
        · rw [hU_n r] at hi
          by_cases t : k = a
          · subst t; rw [hU_s] at hi; omega
          · rw [hU_n t] at hi; exact hi
      have := hl k
      have := hl b
      rw [n35 _ (fun e => q (by omega))]
      exact a5 k i hk hi2
  · have := hl b
    exact n35 j (by omega)
  · exact n36 j (by omega) (by omega)
  · simp only [List.mem_cons, List.not_mem_nil, or_false, not_or] at hc
    exact s c hc.1 hc.2
end QH
