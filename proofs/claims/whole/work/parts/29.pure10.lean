/-! THE PURE PART 10: the class's search makes the search -/
/-- what goOn of the class does, with d calls of itself left -/
def goodC (np nl nc : Nat) (len tim : Nat → Int32) (lim : Nat) (d : Nat) (gg : Int32 → Int32 → (Nat → Nat → Int32) → Option (Int32 × (Nat → Nat → Int32))) : Prop :=
  ∀ (r : Nat) (h : Nat → Nat) (z : Nat → Nat → Nat) (mv : List (Nat × Nat × Option Nat)) (nd : Nat) (M : Nat → Nat → Int32), yWF np nl nc tim h z → r + bd tim h z np ≤ lim → lim ≤ 12 → mv.length + tot h np ≤ r + 10 → nd ≤ 100000 → 13 ≤ d + r → sC np nl nc len tim lim h z mv 0 nd M →
    ∃ rr M', gg (nI r) (nI (bd tim h z np)) M = some (rr, M') ∧ frC M M' ∧ sEnd np nl nc len tim lim (lvF tim z nc 10 h).1 z (mv ++ (lvF tim z nc 10 h).2) h z mv (if isN (nwF tim (lvF tim z nc 10 h).1 z nc) = true then (some (mv ++ (lvF tim z nc 10 h).2), some nd) else sD np nl nc len tim lim d r (lvF tim z nc 10 h).1 z (mv ++ (lvF tim z nc 10 h).2) nd) rr M'
section QD
variable {np nl nc lim : Nat} {len tim : Nat → Int32} {h : Nat → Nat} {z : Nat → Nat → Nat} {M : Nat → Nat → Int32} {mv : List (Nat × Nat × Option Nat)}
theorem sC.stays {M' : Nat → Nat → Int32} {cut nd : Nat} {h' : Nat → Nat} {z' : Nat → Nat → Nat} {mv' : List (Nat × Nat × Option Nat)} (c : sC np nl nc len tim lim h z mv cut nd M) (y : yC np nl nc len tim h' z' M') (m : mvC mv' M') (s : stay2 M M') : sC np nl nc len tim lim h' z' mv' cut nd M' :=
  ⟨y, m, by rw [s 3 (by decide)]; exact c.2.2.1, by rw [s 4 (by decide)]; exact c.2.2.2.1, by rw [s 5 (by decide)]; exact c.2.2.2.2⟩
theorem ev_tryOne {d : Nat} {gg : Int32 → Int32 → (Nat → Nat → Int32) → Option (Int32 × (Nat → Nat → Int32))} (hg : goodC np nl nc len tim lim d gg) {r a b n : Nat} (sn : sNode np nl nc tim lim h z mv r) (ok : mvOk np nl (h, z) (z a (h a - 1), a, some b)) (hlt : r + 1 + bd tim (mvA (h, z) (z a (h a - 1), a, some b)).1 (mvA (h, z) (z a (h a - 1), a, some b)).2 np ≤ lim) (hn : n ≤ 100000) (hd : 13 ≤ d + (r + 1)) (c : sC np nl nc len tim lim h z mv 0 n M) :
    ∃ rr M', f_S_tryOne gg (nI (z a (h a - 1))) (nI b) (nI (r + 1)) (nI (bd tim (mvA (h, z) (z a (h a - 1), a, some b)).1 (mvA (h, z) (z a (h a - 1), a, some b)).2 np)) M = some (rr, M') ∧ frC M M' ∧
      sEnd np nl nc len tim lim h z mv h z mv (if isN (nwF tim (lvF tim (mvA (h, z) (z a (h a - 1), a, some b)).2 nc 10 (mvA (h, z) (z a (h a - 1), a, some b)).1).1 (mvA (h, z) (z a (h a - 1), a, some b)).2 nc) = true then (some (mv ++ (z a (h a - 1), a, some b) :: (lvF tim (mvA (h, z) (z a (h a - 1), a, some b)).2 nc 10 (mvA (h, z) (z a (h a - 1), a, some b)).1).2), some n) else sD np nl nc len tim lim d (r + 1) (lvF tim (mvA (h, z) (z a (h a - 1), a, some b)).2 nc 10 (mvA (h, z) (z a (h a - 1), a, some b)).1).1 (mvA (h, z) (z a (h a - 1), a, some b)).2 (mv ++ (z a (h a - 1), a, some b) :: (lvF tim (mvA (h, z) (z a (h a - 1), a, some b)).2 nc 10 (mvA (h, z) (z a (h a - 1), a, some b)).1).2) n) rr M' := by
  obtain ⟨w, _, hbd, hlim, hln⟩ := sn
  have ha : 0 < h a := ok.1
  obtain ⟨b1, b2, b3⟩ := ok.2.2 b rfl
  have b2 : a ≠ b := fun q => b2 q.symm
  have hnc := w.2.2.2.1
  have hz := w.2.2.2.2.2.2.1 a (h a - 1) (by omega)
  have ha4 : a < 4 := Nat.lt_of_lt_of_le (w.lt4 ha) w.2.1
  have htr := tot_relift w ha b1 b2 (z a (h a - 1))
  have w2 := mvA_wf w ok
  unfold f_S_tryOne
  rw [pr_rd rfl (by omega) (by omega), (c.1.2.2.2.2.2.2.2.1 a (h a - 1) (by omega)).1]
  obtain ⟨M1, f1, m1, s1, t1⟩ := ev_note c.2.1 (by omega) (z a (h a - 1)) a (some b)
  rw [show nI b = oI (some b) from rfl, pr_cc f1, show oI (some b) = nI b from rfl]
  have y1 : yC np nl nc len tim h z M1 := c.1.stays (fun c hc => s1 c (by simp; omega))
  obtain ⟨M2, f2, y2, s2⟩ := ev_relift w y1 ok
  rw [pr_cc f2]
  generalize hq : (z a (h a - 1), a, some b) = q at *
  have hq1 : z a (h a - 1) = q.1 := by rw [← hq]
  have m2 : mvC (mv ++ [q]) M2 := m1.stays (fun c hc => s2 c (by simp; omega))
  have t2 : stay2 M M2 := t1.trans (s2.two (by decide))
  have c2 : sC np nl nc len tim lim (mvA (h, z) q).1 (mvA (h, z) q).2 (mv ++ [q]) 0 n M2 := c.stays y2 m2 t2
  have hln2 : (mv ++ [q]).length = mv.length + 1 := by simp
  have htq : tot (mvA (h, z) q).1 np = tot h np := by rw [← hq]; rw [← hq] at htr; exact htr
  obtain ⟨rr, M3, f3, r3, e3⟩ := hg (r + 1) (mvA (h, z) q).1 (mvA (h, z) q).2 (mv ++ [q]) n M2 w2 hlt hlim (by omega) hn hd c2
  rw [pr_cc f3]
  have fr2 : frC M M2 := ⟨fun c hc => by rw [s2 c (fun q => hc (by simp at q ⊢; omega)), s1 c (fun q => hc (by simp at q ⊢; omega))], t2.three⟩
  obtain ⟨l1, l2, l3, l4, l5, l6⟩ := lvF_ok (np := np) (nl := nl) (nc := nc) (tim := tim) (z := (mvA (h, z) q).2) 10 w2
  generalize hlv : lvF tim (mvA (h, z) q).2 nc 10 (mvA (h, z) q).1 = lv at *
  have eapp : ∀ l, (mv ++ [q]) ++ l = mv ++ q :: l := fun l => by simp
  rw [eapp] at e3
  -- giving up: the moves are taken back
  have back : ∀ cut n', sC np nl nc len tim lim lv.1 (mvA (h, z) q).2 (mv ++ q :: lv.2) cut n' M3 → ∃ M', kb_cl (f_S_takeBack (M 2 6) M3) (fun r8 M9 => some ((0 : Int32), M9)) = some (0, M') ∧ frC M M' ∧ sC np nl nc len tim lim h z mv cut n' M' := by
    intro cut n' c3
    unfold f_S_takeBack
    rw [c.2.1.1]
    have hv : mvV np nl (h, z) (q :: lv.2) := ⟨ok, l3⟩
    have hl22 : (mv ++ q :: lv.2).length ≤ 22 := by simp; omega
    have hR : mvR (h, z) (q :: lv.2) = (lv.1, (mvA (h, z) q).2) := l2
    obtain ⟨M4, g1, g2, g3, g4, g5⟩ := ev_takeBack (s0 := (h, z)) (mv0 := mv) w (q :: lv.2).length (q :: lv.2) rfl kb_F M3 (by simp at hl22 ⊢; unfold kb_F; omega) hl22 hv (by rw [hR]; exact c3.1) c3.2.1
    rw [pr_cc g1]
    refine ⟨M4, rfl, ?_, ?_⟩
    · refine fr2.trans (r3.trans ⟨g4.mono (fun c hc => by simp at hc ⊢; omega), g5.three⟩)
    · refine ⟨g2, ⟨g3, fun j x hx => ?_⟩, by rw [g5 3 (by decide)]; exact c3.2.2.1, by rw [g5 4 (by decide)]; exact c3.2.2.2.1, by rw [g5 5 (by decide)]; exact c3.2.2.2.2⟩
      rw [g4 11 (by decide), g4 12 (by decide), g4 13 (by decide)]
      refine c3.2.1.2 j x ?_
      rw [List.getElem?_append_left]
      · exact hx
      · rcases Nat.lt_or_ge j mv.length with s | s
        · exact s
        · rw [List.getElem?_eq_none s] at hx; cases hx
  rcases e3 with ⟨l, n', eR, rfl, hl22, hv, c3⟩ | ⟨n', eR, rfl, c3⟩ | ⟨n', eR, rfl, c3⟩
  · rw [if_neg (show ¬ (1 : Int32) = 0 by decide)]
    refine ⟨1, M3, rfl, fr2.trans r3, Or.inl ⟨q :: l, n', ?_, rfl, ?_, ⟨ok, hv⟩, ?_⟩⟩
    · rw [eR, eapp]
    · rw [← eapp]; exact hl22
    · rw [eapp] at c3; exact c3
  · rw [if_pos rfl]
    obtain ⟨M4, g1, g2, g3⟩ := back 0 n' c3
    exact ⟨0, M4, g1, g2, Or.inr (Or.inl ⟨n', eR, rfl, g3⟩)⟩
  · rw [if_pos rfl]
    obtain ⟨M4, g1, g2, g3⟩ := back 1 n' c3
    exact ⟨0, M4, g1, g2, Or.inr (Or.inr ⟨n', eR, rfl, g3⟩)⟩
end QD
