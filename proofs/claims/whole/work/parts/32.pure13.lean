/-! THE PURE PART 13: the reference copies a depth, lifts at a depth -/
section QG
variable {np nl nc d : Nat} {len tim : Nat → Int32} {h : Nat → Nat} {z : Nat → Nat → Nat} {N : Nat → Nat → Int32}
/-- depth b becomes what depth a is; all else stays -/
def cpM (a b : Nat) (N N' : Nat → Nat → Int32) : Prop :=
  (∀ j, j < 20 → N' 5 (20 * b + j) = N 5 (20 * a + j)) ∧ (∀ j, j < 4 → N' 6 (4 * b + j) = N 6 (4 * a + j)) ∧ N' 7 b = N 7 a ∧ N' 11 b = N 11 a ∧
  (∀ j, (j < 20 * b ∨ 20 * b + 20 ≤ j) → N' 5 j = N 5 j) ∧ (∀ j, (j < 4 * b ∨ 4 * b + 4 ≤ j) → N' 6 j = N 6 j) ∧ (∀ e, e ≠ b → N' 7 e = N 7 e ∧ N' 11 e = N 11 e) ∧ (∀ c, c ∉ [5, 6, 7, 11] → N' c = N c)
theorem em_cp2 {a b : Nat} (ha : a < 15) (hb : b < 15) (hab : a ≠ b) : ∀ (c f i : Nat) (N : Nat → Nat → Int32), c < f → i + c = 4 → ∃ N', h_M_copy_38 f (nI a) (nI b) (nI i) N = some (0, N') ∧ (∀ j, i ≤ j → j < 4 → N' 6 (4 * b + j) = N 6 (4 * a + j)) ∧ N' 7 b = N 7 a ∧ N' 11 b = N 11 a ∧ (∀ j, (j < 4 * b + i ∨ 4 * b + 4 ≤ j) → N' 6 j = N 6 j) ∧ (∀ e, e ≠ b → N' 7 e = N 7 e ∧ N' 11 e = N 11 e) ∧ (∀ c, c ∉ [6, 7, 11] → N' c = N c) := by
  intro c
  induction c with
  | zero =>
    intro f i N hf hi
    obtain ⟨f, rfl⟩ : ∃ g, f = g + 1 := ⟨f - 1, by omega⟩
    obtain rfl : i = 4 := by omega
    rw [h_M_copy_38, if_pos (by decide), pr_rd rfl ha (by omega), pr_wr rfl hb (by omega), pr_rd rfl ha (by omega), pr_wr rfl hb (by omega)]
    refine ⟨_, rfl, fun j h1 h2 => by omega, ?_, ?_, fun j hj => ?_, fun e he => ⟨?_, ?_⟩, fun c hc => ?_⟩
    · rw [pr_upN (by decide), pr_upS, pr_uS]
    · rw [pr_upS, pr_uS, pr_upN (by decide)]
    · rw [pr_upN (by decide), pr_upN (by decide)]
    · rw [pr_upN (by decide), pr_upS, pr_uN he]
    · rw [pr_upS, pr_uN he, pr_upN (by decide)]
    · simp only [List.mem_cons, List.not_mem_nil, or_false, not_or] at hc
      rw [pr_upN hc.2.2, pr_upN hc.2.1]
  | succ c ih =>
    intro f i N hf hi
    obtain ⟨f, rfl⟩ : ∃ g, f = g + 1 := ⟨f - 1, by omega⟩
    rw [h_M_copy_38, if_neg (show ¬ (4 : Int32) ≤ nI i from nI_ge (b := 4) (by omega) (by decide)), pr_rd (em_hi a i) (by omega) (by omega), pr_wr (em_hi b i) (by omega) (by omega), show nI i + 1 = nI (i + 1) from nI_1 i]
    obtain ⟨N', f1, k1, k2, k3, k4, k5, k6⟩ := ih f (i + 1) (kb_up N 6 (upd (N 6) (4 * b + i) (N 6 (4 * a + i)))) (by omega) (by omega)
    refine ⟨N', f1, fun j h1 h2 => ?_, ?_, ?_, fun j hj => ?_, fun e he => ⟨?_, ?_⟩, fun c hc => ?_⟩
    · by_cases q : j = i
      · subst q
        rw [k4 _ (Or.inl (by omega)), pr_upS, pr_uS]
      · rw [k1 j (by omega) h2, pr_upS, pr_uN (by omega)]
    · rw [k2, pr_upN (by decide)]
    · rw [k3, pr_upN (by decide)]
    · rw [k4 j (by omega), pr_upS, pr_uN (by omega)]
    · rw [(k5 e he).1, pr_upN (by decide)]
    · rw [(k5 e he).2, pr_upN (by decide)]
    · rw [k6 c hc, pr_upN (fun q => hc (by simp [q]))]
theorem em_cp1 {a b : Nat} (ha : a < 15) (hb : b < 15) (hab : a ≠ b) : ∀ (c f i : Nat) (N : Nat → Nat → Int32), c < f → i + c = 20 → ∃ N', h_M_copy_2 f (nI a) (nI b) (nI i) N = some (0, N') ∧ (∀ j, i ≤ j → j < 20 → N' 5 (20 * b + j) = N 5 (20 * a + j)) ∧ (∀ j, j < 4 → N' 6 (4 * b + j) = N 6 (4 * a + j)) ∧ N' 7 b = N 7 a ∧ N' 11 b = N 11 a ∧ (∀ j, (j < 20 * b + i ∨ 20 * b + 20 ≤ j) → N' 5 j = N 5 j) ∧ (∀ j, (j < 4 * b ∨ 4 * b + 4 ≤ j) → N' 6 j = N 6 j) ∧ (∀ e, e ≠ b → N' 7 e = N 7 e ∧ N' 11 e = N 11 e) ∧ (∀ c, c ∉ [5, 6, 7, 11] → N' c = N c) := by
  intro c
  induction c with
  | zero =>
    intro f i N hf hi
    obtain ⟨f, rfl⟩ : ∃ g, f = g + 1 := ⟨f - 1, by omega⟩
    obtain rfl : i = 20 := by omega
    rw [h_M_copy_2, if_pos (by decide)]
    obtain ⟨N', f1, k1, k2, k3, k4, k5, k6⟩ := em_cp2 ha hb hab 4 kb_F 0 N (by unfold kb_F; omega) (by omega)
    exact ⟨N', f1, fun j h1 h2 => by omega, fun j hj => k1 j (by omega) hj, k2, k3, fun j _ => by rw [k6 5 (by decide)], fun j hj => k4 j (by omega), k5, fun c hc => k6 c (fun q => hc (by simp at q ⊢; omega))⟩
  | succ c ih =>
    intro f i N hf hi
    obtain ⟨f, rfl⟩ : ∃ g, f = g + 1 := ⟨f - 1, by omega⟩
    have e20 : ∀ x : Nat, (20 : Int32) * nI x + nI i = nI (20 * x + i) := fun x => by rw [show (20 : Int32) = nI 20 from rfl, pk_mul, nI_add]
    rw [h_M_copy_2, if_neg (show ¬ (20 : Int32) ≤ nI i from nI_ge (b := 20) (by omega) (by decide)), pr_rd (e20 a) (by omega) (by omega), pr_wr (e20 b) (by omega) (by omega), show nI i + 1 = nI (i + 1) from nI_1 i]
    obtain ⟨N', f1, k1, k2, k3, k4, k5, k6, k7, k8⟩ := ih f (i + 1) (kb_up N 5 (upd (N 5) (20 * b + i) (N 5 (20 * a + i)))) (by omega) (by omega)
    refine ⟨N', f1, fun j h1 h2 => ?_, fun j hj => ?_, ?_, ?_, fun j hj => ?_, fun j hj => ?_, fun e he => ⟨?_, ?_⟩, fun c hc => ?_⟩
    · by_cases q : j = i
      · subst q
        rw [k5 _ (Or.inl (by omega)), pr_upS, pr_uS]
      · rw [k1 j (by omega) h2, pr_upS, pr_uN (by omega)]
    · rw [k2 j hj, pr_upN (by decide)]
    · rw [k3, pr_upN (by decide)]
    · rw [k4, pr_upN (by decide)]
    · rw [k5 j (by omega), pr_upS, pr_uN (by omega)]
    · rw [k6 j hj, pr_upN (by decide)]
    · rw [(k7 e he).1, pr_upN (by decide)]
    · rw [(k7 e he).2, pr_upN (by decide)]
    · rw [k8 c hc, pr_upN (fun q => hc (by simp [q]))]
theorem em_copy {a b : Nat} (ha : a < 15) (hb : b < 15) (hab : a ≠ b) (N : Nat → Nat → Int32) : ∃ N', f_M_copy (nI a) (nI b) N = some (0, N') ∧ cpM a b N N' := by
  unfold f_M_copy
  obtain ⟨N', f1, k1, k2, k3, k4, k5, k6, k7, k8⟩ := em_cp1 ha hb hab 20 kb_F 0 N (by unfold kb_F; omega) (by omega)
  exact ⟨N', f1, fun j hj => k1 j (by omega) hj, k2, k3, k4, fun j hj => k5 j (by omega), k6, k7, k8⟩
theorem cpM_yM {a b : Nat} {N' : Nat → Nat → Int32} (c : cpM a b N N') (w : yWF np nl nc tim h z) (y : yM np nl nc len tim a h z N) : yM np nl nc len tim b h z N' := by
  obtain ⟨a1, a2, a3, a4, a5, a6, a7, g, g1, g2, g3⟩ := y
  obtain ⟨k1, k2, k3, k4, k5, k6, k7, k8⟩ := c
  have hl := w.2.2.2.2.1
  have hl5 := w.2.2.1
  refine ⟨by rw [k8 0 (by decide)]; exact a1, by rw [k8 0 (by decide)]; exact a2, by rw [k8 0 (by decide)]; exact a3, fun k hk => by rw [k2 k hk]; exact a4 k hk, fun k i hk hi => ?_, fun p hp => by rw [k8 2 (by decide)]; exact a6 p hp, fun p hp => by rw [k8 3 (by decide)]; exact a7 p hp, g, g1, by rw [k3]; exact g2, g3⟩
  have := hl k
  have e := k1 (5 * k + i) (by omega)
  rw [← Nat.add_assoc, ← Nat.add_assoc] at e
  rw [e]
  exact a5 k i hk hi
theorem cpM_keep {a b e : Nat} {N' : Nat → Nat → Int32} (c : cpM a b N N') (w : yWF np nl nc tim h z) (he : e ≠ b) (y : yM np nl nc len tim e h z N) : yM np nl nc len tim e h z N' := by
  obtain ⟨a1, a2, a3, a4, a5, a6, a7, g, g1, g2, g3⟩ := y
  obtain ⟨k1, k2, k3, k4, k5, k6, k7, k8⟩ := c
  have hl := w.2.2.2.2.1
  have hl5 := w.2.2.1
  refine ⟨by rw [k8 0 (by decide)]; exact a1, by rw [k8 0 (by decide)]; exact a2, by rw [k8 0 (by decide)]; exact a3, fun k hk => by rw [k6 _ (by omega)]; exact a4 k hk, fun k i hk hi => ?_, fun p hp => by rw [k8 2 (by decide)]; exact a6 p hp, fun p hp => by rw [k8 3 (by decide)]; exact a7 p hp, g, g1, by rw [(k7 e he).1]; exact g2, g3⟩
  have := hl k
  rw [k5 _ (by omega)]
  exact a5 k i hk hi
end QG
