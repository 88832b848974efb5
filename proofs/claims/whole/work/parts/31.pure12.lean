/-! THE PURE PART 12: goOn of the class -/
section QF
variable {np nl nc lim : Nat} {len tim : Nat → Int32} {h : Nat → Nat} {z : Nat → Nat → Nat} {mv : List (Nat × Nat × Option Nat)}
theorem row_empty {child : (Nat → Nat) → (Nat → Nat → Nat) → List (Nat × Nat × Option Nat) → Nat → Option (List (Nat × Nat × Option Nat)) × Option Nat} {r a nd : Nat} (ha : a < np) (h0 : h a = 0) : ∀ (c b : Nat), b + c = np → sLoop np nl nc len tim lim child h z mv r (np * np - (a * np + b)) nd = sLoop np nl nc len tim lim child h z mv r (np * np - (a + 1) * np) nd := by
  intro c
  induction c with
  | zero =>
    intro b hb
    obtain rfl : b = np := by omega
    rw [Nat.succ_mul]
  | succ c ih =>
    intro b hb
    have hbp : b < np := by omega
    have hidx := idx_le ha hbp
    obtain ⟨m, hm⟩ : ∃ m, np * np - (a * np + b) = m + 1 := ⟨np * np - (a * np + b) - 1, by omega⟩
    have hma : (np * np - (m + 1)) / np = a := by rw [show np * np - (m + 1) = a * np + b by omega]; exact (idx_div hbp).1
    have hmb : (np * np - (m + 1)) % np = b := by rw [show np * np - (m + 1) = a * np + b by omega]; exact (idx_div hbp).2
    rw [hm, sLoop_at nd hma hmb, if_pos (by unfold sSkip; simp [h0]), ← ih (b + 1) (by omega)]
    rw [show np * np - (a * np + (b + 1)) = m by omega]
theorem ev_tryFrom {d : Nat} {gg : Int32 → Int32 → (Nat → Nat → Int32) → Option (Int32 × (Nat → Nat → Int32))} (hg : goodC np nl nc len tim lim d gg) {r a nd : Nat} {M : Nat → Nat → Int32} (sn : sNode np nl nc tim lim h z mv r) (ha : a < np) (hd : 13 ≤ d + (r + 1)) (hnd : nd ≤ 100000) (sc : sC np nl nc len tim lim h z mv 0 nd M) :
    ∃ rr M', f_S_tryFrom gg (nI a) (nI r) (nI (bd tim h z np)) M = some (rr, M') ∧ frC M M' ∧ rowEnd np nl nc len tim lim (fun h z mv nd => sD np nl nc len tim lim d (r + 1) h z mv nd) h z mv r (np * np - a * np) (np * np - (a + 1) * np) nd rr M' := by
  obtain ⟨w, hnx, hbd, hlim, hln⟩ := id sn
  have h4 := w.2.1
  have hnc := w.2.2.2.1
  unfold f_S_tryFrom
  rw [pr_cc (ev_topOf sc.1 w (show a < 4 by omega))]
  by_cases h0 : h a = 0
  · rw [if_pos h0, if_pos rfl]
    refine ⟨0, M, rfl, frC.rf, Or.inr (Or.inl ⟨nd, Nat.le_refl _, ?_, rfl, sc⟩)⟩
    exact row_empty ha h0 np 0 (by omega)
  · have hz := w.2.2.2.2.2.2.1 a (h a - 1) (by omega)
    rw [if_neg h0, if_neg (pr_m1 (by omega)), pr_cc (ev_isBlocking sc.1 w hz)]
    have hr := ev_row hg sn (show 0 < h a by omega) hd np kb_F 0 nd M (by unfold kb_F; omega) (by omega) hnd sc
    rw [Nat.add_zero] at hr
    cases e : bpB tim h z (z a (h a - 1)) with
    | false => rw [e] at hr; rw [if_pos (show bI false = 0 from rfl)]; exact hr
    | true => rw [e] at hr; rw [if_neg (show ¬ bI true = 0 by decide)]; exact hr
/-- once cut, the other rows do nothing -/
theorem ev_cut {gg : Int32 → Int32 → (Nat → Nat → Int32) → Option (Int32 × (Nat → Nat → Int32))} {r nd : Nat} {B : Int32} {M : Nat → Nat → Int32} (w : yWF np nl nc tim h z) (sc : sC np nl nc len tim lim h z mv 1 nd M) : ∀ (c f a : Nat), c < f → a + c = np → h_S_goOn_26 gg f (nI r) B (nI a) M = some (0, M) := by
  have h4 := w.2.1
  have hnc := w.2.2.2.1
  intro c
  induction c with
  | zero =>
    intro f a hf ha
    obtain ⟨f, rfl⟩ : ∃ g, f = g + 1 := ⟨f - 1, by omega⟩
    obtain rfl : a = np := by omega
    rw [h_S_goOn_26, sc.1.1, if_pos (nI_le (Nat.le_refl _) (by omega))]
  | succ c ih =>
    intro f a hf ha
    obtain ⟨f, rfl⟩ : ∃ g, f = g + 1 := ⟨f - 1, by omega⟩
    have hap : a < np := by omega
    have ht : f_S_tryFrom gg (nI a) (nI r) B M = some (0, M) := by
      unfold f_S_tryFrom
      rw [pr_cc (ev_topOf sc.1 w (show a < 4 by omega))]
      by_cases h0 : h a = 0
      · rw [if_pos h0, if_pos rfl]
      · have hz := w.2.2.2.2.2.2.1 a (h a - 1) (by omega)
        have hone : ∀ (o : Int32), h_S_tryFrom_37 gg kb_F (nI a) (nI r) (nI (z a (h a - 1))) o (0 : Int32) M = some (0, M) := by
          intro o
          obtain ⟨g, hg⟩ : ∃ g, kb_F = g + 1 := ⟨kb_F - 1, by unfold kb_F; omega⟩
          rw [hg, h_S_tryFrom_37, sc.1.1, if_neg (show ¬ nI np ≤ (0 : Int32) from nI_ge (a := 0) (by omega) (by omega)), sc.2.2.1, if_neg (show ¬ nI 1 = 0 by decide)]
        rw [if_neg h0, if_neg (pr_m1 (by omega)), pr_cc (ev_isBlocking sc.1 w hz), hone, hone]
        split <;> rfl
    rw [h_S_goOn_26, sc.1.1, if_neg (nI_ge hap (by omega)), pr_cc ht, if_pos rfl, show nI a + 1 = nI (a + 1) from nI_1 a]
    exact ih f (a + 1) (by omega) (by omega)
theorem ev_rows {d : Nat} {gg : Int32 → Int32 → (Nat → Nat → Int32) → Option (Int32 × (Nat → Nat → Int32))} (hg : goodC np nl nc len tim lim d gg) {r : Nat} (sn : sNode np nl nc tim lim h z mv r) (hd : 13 ≤ d + (r + 1)) : ∀ (c f a nd : Nat) (M : Nat → Nat → Int32), c < f → a + c = np → nd ≤ 100000 → sC np nl nc len tim lim h z mv 0 nd M →
    ∃ rr M', h_S_goOn_26 gg f (nI r) (nI (bd tim h z np)) (nI a) M = some (rr, M') ∧ frC M M' ∧ sEnd np nl nc len tim lim h z mv h z mv (sLoop np nl nc len tim lim (fun h z mv nd => sD np nl nc len tim lim d (r + 1) h z mv nd) h z mv r (np * np - a * np) nd) rr M' := by
  have w := sn.1
  have h4 := w.2.1
  intro c
  induction c with
  | zero =>
    intro f a nd M hf ha hnd sc
    obtain ⟨f, rfl⟩ : ∃ g, f = g + 1 := ⟨f - 1, by omega⟩
    obtain rfl : a = np := by omega
    rw [h_S_goOn_26, sc.1.1, if_pos (nI_le (Nat.le_refl _) (by omega)), Nat.sub_self]
    exact ⟨0, M, rfl, frC.rf, Or.inr (Or.inl ⟨nd, rfl, rfl, sc⟩)⟩
  | succ c ih =>
    intro f a nd M hf ha hnd sc
    obtain ⟨f, rfl⟩ : ∃ g, f = g + 1 := ⟨f - 1, by omega⟩
    have hap : a < np := by omega
    obtain ⟨rr, M1, f1, g1, e1⟩ := ev_tryFrom hg sn hap hd hnd sc
    rw [h_S_goOn_26, sc.1.1, if_neg (nI_ge hap (by omega)), pr_cc f1]
    rcases e1 with ⟨l, n, eR, rfl, k1, k2, k3⟩ | ⟨n, hn, eR, rfl, k1⟩ | ⟨n, eR, rfl, k1⟩
    · rw [if_neg (show ¬ (1 : Int32) = 0 by decide)]
      exact ⟨1, M1, rfl, g1, Or.inl ⟨l, n, eR, rfl, k1, k2, k3⟩⟩
    · rw [if_pos rfl, show nI a + 1 = nI (a + 1) from nI_1 a]
      obtain ⟨rr, M2, f2, g2, e2⟩ := ih f (a + 1) n M1 (by omega) (by omega) (by omega) k1
      rw [eR]
      exact ⟨rr, M2, f2, g1.trans g2, e2⟩
    · rw [if_pos rfl, show nI a + 1 = nI (a + 1) from nI_1 a]
      exact ⟨0, M1, ev_cut w k1 c f (a + 1) (by omega) (by omega), g1, Or.inr (Or.inr ⟨n, eR, rfl, k1⟩)⟩
theorem ev_goOnB {d : Nat} {gg : Int32 → Int32 → (Nat → Nat → Int32) → Option (Int32 × (Nat → Nat → Int32))} (hg : goodC np nl nc len tim lim d gg) : goodC np nl nc len tim lim (d + 1) (fun a b N => f_S_goOnB gg a b N) := by
  intro r h z mv nd M w hbd hlim hln hnd hd sc
  show ∃ rr M', f_S_goOnB gg (nI r) (nI (bd tim h z np)) M = some (rr, M') ∧ _
  unfold f_S_goOnB
  have h4 := w.2.1
  have hnc := w.2.2.2.1
  have htot := tot_le w
  obtain ⟨M1, f1, y1, m1, s1, t1⟩ := ev_letLeave w sc.1 sc.2.1 (by omega)
  obtain ⟨l1, l2, l3, l4, l5, l6⟩ := lvF_ok (np := np) (nl := nl) (nc := nc) (tim := tim) (z := z) 10 w
  rw [pr_cc f1]
  generalize hlv : lvF tim z nc 10 h = lv at *
  have sc1 : sC np nl nc len tim lim lv.1 z (mv ++ lv.2) 0 nd M1 := sc.stays y1 m1 t1
  have fr1 : frC M M1 := ⟨s1.mono (fun c hc => by simp at hc ⊢; omega), t1.three⟩
  rw [pr_cc (ev_nextWanted y1 l1)]
  have hlen : (mv ++ lv.2).length + tot lv.1 np = mv.length + tot h np := by rw [List.length_append]; omega
  cases e : nwF tim lv.1 z nc with
  | none =>
    rw [if_pos (show oI none = -1 from rfl), if_pos (show isN none = true from rfl)]
    refine ⟨1, M1, rfl, fr1, Or.inl ⟨lv.2, nd, rfl, rfl, by omega, l3, ?_⟩⟩
    rw [l2]
    exact sc1
  | some p =>
    have hp := nwF_lt e
    rw [if_neg (show ¬ oI (some p) = -1 from pr_m1 (by omega)), if_neg (show ¬ isN (some p) = true from fun q => by cases q)]
    have sn : sNode np nl nc tim lim lv.1 z (mv ++ lv.2) r := ⟨l1, ⟨p, e, l6 (by omega) p e⟩, by rw [l4]; exact hbd, hlim, by omega⟩
    have hb1 := sn.bd1
    rw [l4] at hb1
    rw [if_pos (show nI r < (12 : Int32) from nI_lt (b := 12) (by omega) (by decide))]
    have hr := ev_rows hg sn (by omega) np kb_F 0 nd M1 (by unfold kb_F; omega) (by omega) hnd sc1
    rw [l4, Nat.zero_mul, Nat.sub_zero] at hr
    obtain ⟨rr, M2, f2, g2, e2⟩ := hr
    refine ⟨rr, M2, f2, fr1.trans g2, ?_⟩
    rcases e2 with ⟨l, n, eR, k0, k1, k2, k3⟩ | ⟨n, eR, k0, k1⟩ | ⟨n, eR, k0, k1⟩
    · refine Or.inl ⟨lv.2 ++ l, n, ?_, k0, ?_, ?_, ?_⟩
      · rw [← List.append_assoc]; exact eR
      · rw [← List.append_assoc]; exact k1
      · rw [mvV_app, l2]; exact ⟨l3, k2⟩
      · rw [mvR_app, l2, ← List.append_assoc]; exact k3
    · exact Or.inr (Or.inl ⟨n, eR, k0, k1⟩)
    · exact Or.inr (Or.inr ⟨n, eR, k0, k1⟩)
/-- goOn of the class, with d calls of itself -/
theorem ev_goOn : ∀ (d : Nat), goodC np nl nc len tim lim d (fun a b N => f_S_goOn d a b N) := by
  intro d
  induction d with
  | zero =>
    intro r h z mv nd M w hbd hlim hln hnd hd sc
    omega
  | succ d ih => exact ev_goOnB ih
end QF
