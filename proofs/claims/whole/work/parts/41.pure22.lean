/-! THE PURE PART 22: at -/
section QO
variable {np nl nc : Nat} {len tim : Nat → Int32} {h : Nat → Nat} {z : Nat → Nat → Nat} {N : Nat → Nat → Int32}
def atV (u2 : Int32) (k i : Nat) (b : Bool) : Int32 := if u2 = 0 then nI k else if u2 = 1 then nI i else bI b
theorem at70_skip (y : yM np nl nc len tim 0 h z N) (w : yWF np nl nc tim h z) (kk : Int32 → Int32 → Int32 → (Nat → Nat → Int32) → Option (Int32 × (Nat → Nat → Int32))) {k p : Nat} (u2 : Int32) (hk : k < 4) (hp : p < nc) : ∀ (c f i : Nat), c < f → i + c = h k → (∀ j, i ≤ j → j < h k → z k j ≠ p) → h_M_at_70 kk f (nI p) u2 (nI k) (nI i) N = kk (nI p) u2 (nI (k + 1)) N := by
  have hl := w.2.2.2.2.1 k
  have hl5 := w.2.2.1
  have hn := w.2.2.2.1
  have e6 : N 6 k = nI (h k) := by
    have := y.2.2.2.1 k hk
    rw [show 4 * 0 + k = k by omega] at this
    exact this
  intro c
  induction c with
  | zero =>
    intro f i hf hi _
    obtain ⟨f, rfl⟩ : ∃ g, f = g + 1 := ⟨f - 1, by omega⟩
    rw [h_M_at_70, pr_rd rfl (by omega) (by omega), e6, if_pos (nI_le (by omega) (by omega)), show nI k + 1 = nI (k + 1) from nI_1 k]
  | succ c ih =>
    intro f i hf hi hne
    obtain ⟨f, rfl⟩ : ∃ g, f = g + 1 := ⟨f - 1, by omega⟩
    have ec : f_M_cell (0 : Int32) (nI k) (nI i) N = some (nI (20 * 0 + 5 * k + i), N) := em_cell 0 k i N
    have hz := w.2.2.2.2.2.2.1 k i (by omega)
    rw [h_M_at_70, pr_rd rfl (by omega) (by omega), e6, if_neg (nI_ge (by omega) (by omega)), pr_cc ec, pr_rd rfl (by omega) (by omega), y.2.2.2.2.1 k i hk (by omega), if_neg (fun q => hne i (Nat.le_refl _) (by omega) ((nI_eq (by omega) (by omega)).mp q)), show nI i + 1 = nI (i + 1) from nI_1 i]
    exact ih f (i + 1) (by omega) (by omega) (fun j a b => hne j (by omega) b)
theorem at70_hit (y : yM np nl nc len tim 0 h z N) (w : yWF np nl nc tim h z) (kk : Int32 → Int32 → Int32 → (Nat → Nat → Int32) → Option (Int32 × (Nat → Nat → Int32))) {k i0 : Nat} (u2 : Int32) (hi0 : i0 < h k) : ∀ (c f i : Nat), c < f → i + c = i0 → h_M_at_70 kk f (nI (z k i0)) u2 (nI k) (nI i) N = some (atV u2 k i0 (wb tim (z k) (tu tim (z k i0)) 0 i0), N) := by
  have hl := w.2.2.2.2.1 k
  have hl5 := w.2.2.1
  have hn := w.2.2.2.1
  have hkp := w.lt4 hi0
  have h4 := w.2.1
  have hk : k < 4 := by omega
  have hp := w.2.2.2.2.2.2.1 k i0 hi0
  have e6 : N 6 k = nI (h k) := by
    have := y.2.2.2.1 k hk
    rw [show 4 * 0 + k = k by omega] at this
    exact this
  intro c
  induction c with
  | zero =>
    intro f i hf hi
    obtain ⟨f, rfl⟩ : ∃ g, f = g + 1 := ⟨f - 1, by omega⟩
    obtain rfl : i = i0 := by omega
    have ec : f_M_cell (0 : Int32) (nI k) (nI i) N = some (nI (20 * 0 + 5 * k + i), N) := em_cell 0 k i N
    have eb : f_M_blocksOn (0 : Int32) (nI k) (nI i) (nI (z k i)) N = some (bI (wb tim (z k) (tu tim (z k i)) 0 i), N) := em_blocksOn (d := 0) y w (by omega) hk hp (by omega)
    rw [h_M_at_70, pr_rd rfl (by omega) (by omega), e6, if_neg (nI_ge (by omega) (by omega)), pr_cc ec, pr_rd rfl (by omega) (by omega), y.2.2.2.2.1 k i hk (by omega), if_pos rfl, pr_cc eb]
    unfold atV
    by_cases u0 : u2 = 0
    · rw [if_pos u0, if_pos u0]
    · rw [if_neg u0, if_neg u0]
      by_cases u1 : u2 = 1
      · rw [if_pos u1, if_pos u1]
      · rw [if_neg u1, if_neg u1]
        cases wb tim (z k) (tu tim (z k i)) 0 i <;> rfl
  | succ c ih =>
    intro f i hf hi
    obtain ⟨f, rfl⟩ : ∃ g, f = g + 1 := ⟨f - 1, by omega⟩
    have ec : f_M_cell (0 : Int32) (nI k) (nI i) N = some (nI (20 * 0 + 5 * k + i), N) := em_cell 0 k i N
    have hz := w.2.2.2.2.2.2.1 k i (by omega)
    rw [h_M_at_70, pr_rd rfl (by omega) (by omega), e6, if_neg (nI_ge (by omega) (by omega)), pr_cc ec, pr_rd rfl (by omega) (by omega), y.2.2.2.2.1 k i hk (by omega), if_neg (fun q => ?_), show nI i + 1 = nI (i + 1) from nI_1 i]
    · exact ih f (i + 1) (by omega) (by omega)
    · have := (w.2.2.2.2.2.2.2.1 k i k i0 (by omega) hi0 ((nI_eq (by omega) (by omega)).mp q)).2
      omega
theorem at59_gone (y : yM np nl nc len tim 0 h z N) (w : yWF np nl nc tim h z) {p : Nat} (u2 : Int32) (hp : p < nc) (hg : gone h z p) : ∀ (c f k : Nat), c < f → k + c = np → h_M_at_59 f (nI p) u2 (nI k) N = some (if u2 = 2 then 0 else -1, N) := by
  have h4 := w.2.1
  intro c
  induction c with
  | zero =>
    intro f k hf hk
    obtain ⟨f, rfl⟩ : ∃ g, f = g + 1 := ⟨f - 1, by omega⟩
    rw [h_M_at_59, y.1, if_pos (nI_le (by omega) (by omega))]
    split <;> rfl
  | succ c ih =>
    intro f k hf hk
    obtain ⟨f, rfl⟩ : ∃ g, f = g + 1 := ⟨f - 1, by omega⟩
    have hl := w.2.2.2.2.1 k
    have hl5 := w.2.2.1
    have h70 := at70_skip y w (fun y0 y1 y2 N => h_M_at_59 f y0 y1 y2 N) (k := k) u2 (by omega) hp (h k) kb_F 0 (by unfold kb_F; omega) (by omega) (fun j _ hj => hg k j hj)
    have h70' : h_M_at_70 (fun y0 y1 y2 N => h_M_at_59 f y0 y1 y2 N) kb_F (nI p) u2 (nI k) (0 : Int32) N = h_M_at_59 f (nI p) u2 (nI (k + 1)) N := h70
    rw [h_M_at_59, y.1, if_neg (nI_ge (by omega) (by omega)), h70']
    exact ih f (k + 1) (by omega) (by omega)
theorem at59_hit (y : yM np nl nc len tim 0 h z N) (w : yWF np nl nc tim h z) {k0 i0 : Nat} (u2 : Int32) (hi0 : i0 < h k0) : ∀ (c f k : Nat), c < f → k + c = k0 → h_M_at_59 f (nI (z k0 i0)) u2 (nI k) N = some (atV u2 k0 i0 (wb tim (z k0) (tu tim (z k0 i0)) 0 i0), N) := by
  have h4 := w.2.1
  have hkp := w.lt4 hi0
  have hp := w.2.2.2.2.2.2.1 k0 i0 hi0
  intro c
  induction c with
  | zero =>
    intro f k hf hk
    obtain ⟨f, rfl⟩ : ∃ g, f = g + 1 := ⟨f - 1, by omega⟩
    obtain rfl : k = k0 := by omega
    have hl := w.2.2.2.2.1 k
    have hl5 := w.2.2.1
    rw [h_M_at_59, y.1, if_neg (nI_ge (by omega) (by omega))]
    exact at70_hit y w (fun y0 y1 y2 N => h_M_at_59 f y0 y1 y2 N) u2 hi0 i0 kb_F 0 (by unfold kb_F; omega) (by omega)
  | succ c ih =>
    intro f k hf hk
    obtain ⟨f, rfl⟩ : ∃ g, f = g + 1 := ⟨f - 1, by omega⟩
    have hl := w.2.2.2.2.1 k
    have hl5 := w.2.2.1
    have h70 := at70_skip y w (fun y0 y1 y2 N => h_M_at_59 f y0 y1 y2 N) (k := k) u2 (by omega) hp (h k) kb_F 0 (by unfold kb_F; omega) (by omega) (fun j _ hj q => by have := (w.2.2.2.2.2.2.2.1 k j k0 i0 hj hi0 q).1; omega)
    have h70' : h_M_at_70 (fun y0 y1 y2 N => h_M_at_59 f y0 y1 y2 N) kb_F (nI (z k0 i0)) u2 (nI k) (0 : Int32) N = h_M_at_59 f (nI (z k0 i0)) u2 (nI (k + 1)) N := h70
    rw [h_M_at_59, y.1, if_neg (nI_ge (by omega) (by omega)), h70']
    exact ih f (k + 1) (by omega) (by omega)
end QO
theorem o_at : op_at Inv := by
  intro x1 x2 M N i
  obtain ⟨np, nl, nc, nw, len, tim, h, z, w, y, m, g, s⟩ := id i
  have hn := w.2.2.2.1
  have h4 := w.2.1
  by_cases h1 : ∃ p, p < nc ∧ x1 = nI p
  · obtain ⟨p, hp, rfl⟩ := h1
    by_cases h2 : (0 : Int32) ≤ x2 ∧ x2 ≤ 4
    · have m0 : yM np nl nc len tim 0 h z (sc0 N 0) := yM.stM w stM.sc0 m
      have e23 : f_M_at (nI p) x2 N = if x2 = 3 then some (tim p, sc0 N 0) else if x2 = 4 then some (N 4 p, sc0 N 0) else h_M_at_59 kb_F (nI p) x2 0 (sc0 N 0) := by
        unfold f_M_at
        rw [pr_cc (ip_y m w hp), if_neg one0, pr_cc (mi_y h2), if_neg one0]
        unfold h_M_at_23
        rw [pr_cc (goes0 one0 one0 one0), if_neg one0, pr_rd rfl (by omega) (by omega), pr_rd rfl (by omega) (by omega), m0.2.2.2.2.2.2.1 p hp, sc0_c (by decide)]
      have gen : ∃ r, f_P_at (nI p) x2 M = some (r, M) ∧ f_M_at (nI p) x2 N = some (r, sc0 N 0) := by
        obtain ⟨t, -, ht, rfl⟩ := (in_rng (a := 0) (b := 4) (by omega) (by omega)).mp h2
        rw [e23]
        unfold f_P_at
        rw [pr_cc (cp_y y w hp).1, pr_rd rfl (by omega) (by omega), pr_rd rfl (by omega) (by omega), pr_rd rfl (by omega) (by omega), pr_rd rfl (by omega) (by omega), pr_cc (ev_isBlocking y w hp)]
        have k34 : ∀ t, t ≤ 2 → ¬ nI t = 3 ∧ ¬ nI t = 4 := fun t ht => ⟨fun q => by have := (nI_eq (a := t) (b := 3) (by omega) (by omega)).mp q; omega, fun q => by have := (nI_eq (a := t) (b := 4) (by omega) (by omega)).mp q; omega⟩
        rcases Nat.lt_or_ge t 3 with h3 | h3
        · rw [if_neg (k34 t (by omega)).1, if_neg (k34 t (by omega)).2]
          cases hl : lcB h z p with
          | false =>
            have hg := lcB_f w hl
            have e59 : h_M_at_59 kb_F (nI p) (nI t) 0 (sc0 N 0) = some (if nI t = 2 then 0 else -1, sc0 N 0) := at59_gone m0 w (nI t) hp hg np kb_F 0 (by unfold kb_F; omega) (by omega)
            rw [e59, bpB_g hg, (y.2.2.2.2.2.2.2.2 p hp hg).1, (y.2.2.2.2.2.2.2.2 p hp hg).2]
            have : t = 0 ∨ t = 1 ∨ t = 2 := by omega
            rcases this with rfl | rfl | rfl
            · exact ⟨-1, rfl, rfl⟩
            · exact ⟨-1, rfl, rfl⟩
            · exact ⟨0, rfl, rfl⟩
          | true =>
            obtain ⟨k, j, hk, hj, rfl⟩ := lcB_e hl
            have e59 : h_M_at_59 kb_F (nI (z k j)) (nI t) 0 (sc0 N 0) = some (atV (nI t) k j (wb tim (z k) (tu tim (z k j)) 0 j), sc0 N 0) := at59_hit m0 w (nI t) hj k kb_F 0 (by unfold kb_F; omega) (by omega)
            rw [e59, bpB_t w hj, (y.2.2.2.2.2.2.2.1 k j hj).1, (y.2.2.2.2.2.2.2.1 k j hj).2]
            have : t = 0 ∨ t = 1 ∨ t = 2 := by omega
            rcases this with rfl | rfl | rfl
            · exact ⟨nI k, rfl, rfl⟩
            · exact ⟨nI j, rfl, rfl⟩
            · refine ⟨bI (wb tim (z k) (tu tim (z k j)) 0 j), ?_, rfl⟩
              cases wb tim (z k) (tu tim (z k j)) 0 j <;> rfl
        · have : t = 3 ∨ t = 4 := by omega
          rcases this with rfl | rfl
          · refine ⟨tim p, ?_, rfl⟩
            rw [← y.2.2.2.2.2.2.1 p hp]
            rfl
          · refine ⟨M 16 p, rfl, ?_⟩
            rw [(g.2.2.2.2.1 p hp).2.1]
            rfl
      obtain ⟨r, a, b⟩ := gen
      exact ⟨0, r, M, r, sc0 N 0, Or.inl ⟨a, rfl⟩, b, sc0_0, fun _ => rfl, i.code 0⟩
    · refine ⟨nI (0 + 1), 0, M, 0, sc0 N 1, oc_no 0 1 rfl ?_, ?_, sc0_0, fun q => absurd q (by decide), i.code 1⟩
      · unfold x_P_at
        rw [(cp_y y w hp).2, xc_n, pr_cc (cp_y y w hp).1, if_neg (fun q => h2 (by rw [q]; decide)), if_neg (fun q => h2 (by rw [q]; decide)), if_neg (fun q => h2 (by rw [q]; decide)), if_neg (fun q => h2 (by rw [q]; decide)), if_neg (fun q => h2 (by rw [q]; decide))]
      · unfold f_M_at
        rw [pr_cc (ip_y m w hp), if_neg one0, pr_cc (mi_n h2), if_pos rfl]
        unfold h_M_at_22 h_M_at_23
        rw [pr_cc (goes1 rfl), if_pos rfl]
  · refine ⟨nI (0 + 1), 0, M, 0, sc0 N 1, oc_no 0 1 rfl ?_, ?_, sc0_0, fun q => absurd q (by decide), i.code 1⟩
    · unfold x_P_at
      rw [(cp_n y w h1).2, xc_s]
    · unfold f_M_at
      rw [pr_cc (ip_n m w h1), if_pos rfl]
      unfold h_M_at_22 h_M_at_23
      rw [pr_cc (goes1 rfl), if_pos rfl]
