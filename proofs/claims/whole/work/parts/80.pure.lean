/-! THE PURE PART, its end: the start, and all of it -/
theorem i_clearY : ∀ (c f i : Nat) (M : Nat → Nat → Int32), c < f → i + c = 4 → (∀ j, j < i → M 1 j = 0) → ∃ M', h2_Y_clear_17 f (nI i) M = some (0, M') ∧ stay [1] M M' ∧ ∀ j, j < 4 → M' 1 j = 0 := by
  intro c
  induction c with
  | zero =>
    intro f i M hf hi hz
    obtain ⟨f, rfl⟩ : ∃ g, f = g + 1 := ⟨f - 1, by omega⟩
    obtain rfl : i = 4 := by omega
    rw [h2_Y_clear_17, if_pos (by decide)]
    exact ⟨M, rfl, fun _ _ => rfl, hz⟩
  | succ c ih =>
    intro f i M hf hi hz
    obtain ⟨f, rfl⟩ : ∃ g, f = g + 1 := ⟨f - 1, by omega⟩
    rw [h2_Y_clear_17, if_neg (show ¬ (4 : Int32) ≤ nI i from nI_ge (b := 4) (by omega) (by decide)), pr_wr rfl (by omega) (by omega), show nI i + 1 = nI (i + 1) from nI_1 i]
    obtain ⟨M', f1, s1, z1⟩ := ih f (i + 1) (kb_up M 1 (upd (M 1) i 0)) (by omega) (by omega) (fun j hj => by
      rw [pr_upS]
      by_cases e : j = i
      · subst e; rw [pr_uS]
      · rw [pr_uN e]; exact hz j (by omega))
    exact ⟨M', f1, fun c hc => by rw [s1 c hc, pr_upN (fun q => hc (by simp [q]))], z1⟩
theorem i_clearW : ∀ (c f i : Nat) (M : Nat → Nat → Int32), c < f → i + c = 10 → (∀ j, j < i → M 3 j = -1) → ∃ M', h2_W_clear_7 f (nI i) M = some (0, M') ∧ stay [3] M M' ∧ ∀ j, j < 10 → M' 3 j = -1 := by
  intro c
  induction c with
  | zero =>
    intro f i M hf hi hz
    obtain ⟨f, rfl⟩ : ∃ g, f = g + 1 := ⟨f - 1, by omega⟩
    obtain rfl : i = 10 := by omega
    rw [h2_W_clear_7, if_pos (by decide)]
    exact ⟨M, rfl, fun _ _ => rfl, hz⟩
  | succ c ih =>
    intro f i M hf hi hz
    obtain ⟨f, rfl⟩ : ∃ g, f = g + 1 := ⟨f - 1, by omega⟩
    rw [h2_W_clear_7, if_neg (show ¬ (10 : Int32) ≤ nI i from nI_ge (b := 10) (by omega) (by decide)), pr_wr rfl (by omega) (by omega), show nI i + 1 = nI (i + 1) from nI_1 i]
    obtain ⟨M', f1, s1, z1⟩ := ih f (i + 1) (kb_up M 3 (upd (M 3) i (-1))) (by omega) (by omega) (fun j hj => by
      rw [pr_upS]
      by_cases e : j = i
      · subst e; rw [pr_uS]
      · rw [pr_uN e]; exact hz j (by omega))
    exact ⟨M', f1, fun c hc => by rw [s1 c hc, pr_upN (fun q => hc (by simp [q]))], z1⟩
theorem pure_facts : ∃ (Inv : (Nat → Nat → Int32) → (Nat → Nat → Int32) → Prop) (MY MW : Nat → Nat → Int32), kb_ops Inv ∧ f2_Y_clear 2 4 kz = some (0, MY) ∧ f2_W_clear kz = some (0, MW) ∧ Inv (iC MY MW) kzM := by
  obtain ⟨A1, a1⟩ : ∃ A1, A1 = kb_up kz 0 (upd (kz 0) 0 (2 : Int32)) := ⟨_, rfl⟩
  obtain ⟨A2, a2⟩ : ∃ A2, A2 = kb_up A1 0 (upd (A1 0) 1 (4 : Int32)) := ⟨_, rfl⟩
  obtain ⟨A3, a3⟩ : ∃ A3, A3 = kb_up A2 0 (upd (A2 0) 2 (0 : Int32)) := ⟨_, rfl⟩
  obtain ⟨MY, f1, s1, z1⟩ := i_clearY 4 kb_F 0 A3 (by unfold kb_F; omega) (by omega) (fun j hj => absurd hj (by omega))
  obtain ⟨B1, b1⟩ : ∃ B1, B1 = kb_up kz 0 (upd (kz 0) 0 (0 : Int32)) := ⟨_, rfl⟩
  obtain ⟨MW, f2, s2, z2⟩ := i_clearW 10 kb_F 0 B1 (by unfold kb_F; omega) (by omega) (fun j hj => absurd hj (by omega))
  refine ⟨Inv, MY, MW, ⟨o_piles, o_put, o_want, o_may, o_bound, o_run, o_proved, o_moves, o_move, o_replay, o_at, o_tidy, o_wagon, o_load⟩, ?_, ?_, 2, 4, 0, 0, _, _, _, _, yWF.empty (by omega) (by omega) (by omega), yC.empty ?_ ?_ ?_ ?_, yM.empty rfl rfl rfl (fun k _ => rfl) rfl, ⟨?_, rfl, by omega, fun j hj => absurd hj (by omega), fun p hp => absurd hp (by omega), fun p _ hp => ?_⟩, sr.none rfl rfl rfl rfl⟩
  · unfold f2_Y_clear
    rw [pr_st, pr_st, pr_st, ← a1, ← a2, ← a3]
    exact f1
  · unfold f2_W_clear
    rw [pr_st, ← b1]
    exact f2
  · show MY 0 0 = nI 2
    rw [s1 0 (by decide), a3, pr_upS, pr_uN (by decide), a2, pr_upS, pr_uN (by decide), a1, pr_upS, pr_uS]
    rfl
  · show MY 0 1 = nI 4
    rw [s1 0 (by decide), a3, pr_upS, pr_uN (by decide), a2, pr_upS, pr_uS]
    rfl
  · show MY 0 2 = 0
    rw [s1 0 (by decide), a3, pr_upS, pr_uS]
  · exact z1
  · show MW 0 0 = nI 0
    rw [s2 0 (by decide), b1, pr_upS, pr_uS]
    rfl
  · exact z2 p hp
