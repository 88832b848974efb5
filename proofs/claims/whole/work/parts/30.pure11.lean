/-! THE PURE PART 11: a row of choices, all rows, goOn -/
section QE
variable {np nl nc lim : Nat} {len tim : Nat → Int32} {h : Nat → Nat} {z : Nat → Nat → Nat} {mv : List (Nat × Nat × Option Nat)}
/-- how a row of choices (or the rows up to one) ends: found or cut, or what is left of the loop is the loop with m2 choices left -/
def rowEnd (np nl nc : Nat) (len tim : Nat → Int32) (lim : Nat) (child : (Nat → Nat) → (Nat → Nat → Nat) → List (Nat × Nat × Option Nat) → Nat → Option (List (Nat × Nat × Option Nat)) × Option Nat) (h : Nat → Nat) (z : Nat → Nat → Nat) (mv : List (Nat × Nat × Option Nat)) (r m1 m2 nd : Nat) (rr : Int32) (M' : Nat → Nat → Int32) : Prop :=
  (∃ l n, sLoop np nl nc len tim lim child h z mv r m1 nd = (some (mv ++ l), some n) ∧ rr = 1 ∧ (mv ++ l).length ≤ 22 ∧ mvV np nl (h, z) l ∧ sC np nl nc len tim lim (mvR (h, z) l).1 (mvR (h, z) l).2 (mv ++ l) 0 n M') ∨
  (∃ n, n ≤ nd ∧ sLoop np nl nc len tim lim child h z mv r m1 nd = sLoop np nl nc len tim lim child h z mv r m2 n ∧ rr = 0 ∧ sC np nl nc len tim lim h z mv 0 n M') ∨
  (∃ n, sLoop np nl nc len tim lim child h z mv r m1 nd = (none, none) ∧ rr = 0 ∧ sC np nl nc len tim lim h z mv 1 n M')
theorem idx_div {np a b : Nat} (hb : b < np) : (a * np + b) / np = a ∧ (a * np + b) % np = b := by
  constructor
  · rw [Nat.mul_comm, Nat.mul_add_div (by omega), Nat.div_eq_of_lt hb, Nat.add_zero]
  · rw [Nat.mul_comm, Nat.mul_add_mod, Nat.mod_eq_of_lt hb]
theorem idx_le {np a b : Nat} (ha : a < np) (hb : b < np) : a * np + b < np * np := by
  have : (a + 1) * np ≤ np * np := Nat.mul_le_mul_right np ha
  rw [Nat.succ_mul] at this
  omega
/-- the nodes never grow -/
theorem sLoop_le {child : (Nat → Nat) → (Nat → Nat → Nat) → List (Nat × Nat × Option Nat) → Nat → Option (List (Nat × Nat × Option Nat)) × Option Nat} {r : Nat} (hc : ∀ h z mv nd n, (child h z mv nd).2 = some n → n ≤ nd) : ∀ (m nd n : Nat), (sLoop np nl nc len tim lim child h z mv r m nd).2 = some n → n ≤ nd := by
  intro m
  induction m with
  | zero => intro nd n e; cases e; exact Nat.le_refl _
  | succ m ih =>
    intro nd n e
    unfold sLoop at e
    by_cases c : sSkip nl len h z ((np * np - (m + 1)) / np) ((np * np - (m + 1)) % np) = true
    · rw [if_pos c] at e; exact ih nd n e
    · rw [if_neg c] at e
      cases nd with
      | zero => cases e
      | succ nd =>
        dsimp only at e
        split at e
        · cases e; omega
        · split at e
          · have := ih nd n e; omega
          · split at e
            · rename_i q
              have := hc _ _ _ _ n (by rw [q]; exact e); omega
            · cases e
            · rename_i n2 q
              have h1 := hc _ _ _ _ n2 (by rw [q])
              have := ih n2 n e; omega
theorem sD_le : ∀ (d r : Nat) (h : Nat → Nat) (z : Nat → Nat → Nat) (mv : List (Nat × Nat × Option Nat)) (nd n : Nat), (sD np nl nc len tim lim d r h z mv nd).2 = some n → n ≤ nd := by
  intro d
  induction d with
  | zero => intro r h z mv nd n e; cases e
  | succ d ih =>
    intro r h z mv nd n e
    exact sLoop_le (fun h z mv nd n e => ih (r + 1) h z mv nd n e) _ nd n e
theorem sLoop_at {child : (Nat → Nat) → (Nat → Nat → Nat) → List (Nat × Nat × Option Nat) → Nat → Option (List (Nat × Nat × Option Nat)) × Option Nat} {r m a b : Nat} (nd : Nat) (hma : (np * np - (m + 1)) / np = a) (hmb : (np * np - (m + 1)) % np = b) : sLoop np nl nc len tim lim child h z mv r (m + 1) nd = if sSkip nl len h z a b = true then sLoop np nl nc len tim lim child h z mv r m nd else match nd with
      | 0 => (none, none)
      | n + 1 => if isN (nwF tim (lvF tim (mvA (h, z) (z a (h a - 1), a, some b)).2 nc 10 (mvA (h, z) (z a (h a - 1), a, some b)).1).1 (mvA (h, z) (z a (h a - 1), a, some b)).2 nc) = true then (some (mv ++ (z a (h a - 1), a, some b) :: (lvF tim (mvA (h, z) (z a (h a - 1), a, some b)).2 nc 10 (mvA (h, z) (z a (h a - 1), a, some b)).1).2), some n)
        else if lim < r + 1 + bd tim (lvF tim (mvA (h, z) (z a (h a - 1), a, some b)).2 nc 10 (mvA (h, z) (z a (h a - 1), a, some b)).1).1 (mvA (h, z) (z a (h a - 1), a, some b)).2 np then sLoop np nl nc len tim lim child h z mv r m n
        else match child (lvF tim (mvA (h, z) (z a (h a - 1), a, some b)).2 nc 10 (mvA (h, z) (z a (h a - 1), a, some b)).1).1 (mvA (h, z) (z a (h a - 1), a, some b)).2 (mv ++ (z a (h a - 1), a, some b) :: (lvF tim (mvA (h, z) (z a (h a - 1), a, some b)).2 nc 10 (mvA (h, z) (z a (h a - 1), a, some b)).1).2) n with
          | (some x, y) => (some x, y)
          | (none, none) => (none, none)
          | (none, some n2) => sLoop np nl nc len tim lim child h z mv r m n2 := by
  subst hma hmb
  conv => lhs; unfold sLoop
  cases nd <;> rfl
theorem ev_row {d : Nat} {gg : Int32 → Int32 → (Nat → Nat → Int32) → Option (Int32 × (Nat → Nat → Int32))} (hg : goodC np nl nc len tim lim d gg) {r a : Nat} (sn : sNode np nl nc tim lim h z mv r) (ha : 0 < h a) (hd : 13 ≤ d + (r + 1)) : ∀ (c f b nd : Nat) (M : Nat → Nat → Int32), c < f → b + c = np → nd ≤ 100000 → sC np nl nc len tim lim h z mv 0 nd M →
    ∃ rr M', h_S_tryFrom_37 gg f (nI a) (nI r) (nI (z a (h a - 1))) (nI (bd tim h z np) - bI (bpB tim h z (z a (h a - 1)))) (nI b) M = some (rr, M') ∧ frC M M' ∧ rowEnd np nl nc len tim lim (fun h z mv nd => sD np nl nc len tim lim d (r + 1) h z mv nd) h z mv r (np * np - (a * np + b)) (np * np - (a + 1) * np) nd rr M' := by
  obtain ⟨w, hnx, hbd, hlim, hln⟩ := id sn
  have h4 := w.2.1
  have hnc := w.2.2.2.1
  have hap := w.lt4 ha
  have hz := w.2.2.2.2.2.2.1 a (h a - 1) (by omega)
  intro c
  induction c with
  | zero =>
    intro f b nd M hf hb hnd sc
    obtain ⟨f, rfl⟩ : ∃ g, f = g + 1 := ⟨f - 1, by omega⟩
    obtain rfl : b = np := by omega
    rw [h_S_tryFrom_37, sc.1.1, if_pos (nI_le (Nat.le_refl _) (by omega))]
    refine ⟨0, M, rfl, frC.rf, Or.inr (Or.inl ⟨nd, Nat.le_refl _, ?_, rfl, sc⟩)⟩
    rw [Nat.succ_mul]
  | succ c ih =>
    intro f b nd M hf hb hnd sc
    obtain ⟨f, rfl⟩ : ∃ g, f = g + 1 := ⟨f - 1, by omega⟩
    have hbp : b < np := by omega
    have hb4 : b < 4 := by omega
    have e1 : nI b + 1 = nI (b + 1) := nI_1 b
    have hidx := idx_le hap hbp
    obtain ⟨m, hm⟩ : ∃ m, np * np - (a * np + b) = m + 1 := ⟨np * np - (a * np + b) - 1, by omega⟩
    have hm2 : np * np - (a * np + (b + 1)) = m := by omega
    have hma : (np * np - (m + 1)) / np = a := by rw [show np * np - (m + 1) = a * np + b by omega]; exact (idx_div hbp).1
    have hmb : (np * np - (m + 1)) % np = b := by rw [show np * np - (m + 1) = a * np + b by omega]; exact (idx_div hbp).2
    rw [h_S_tryFrom_37, sc.1.1, if_neg (nI_ge hbp (by omega)), sc.2.2.1, if_pos (show nI 0 = 0 from rfl), hm]
    -- a choice that is passed over
    have skip : ∀ {M1 : Nat → Nat → Int32} {n1 : Nat}, n1 ≤ nd → frC M M1 → sC np nl nc len tim lim h z mv 0 n1 M1 → sLoop np nl nc len tim lim (fun h z mv nd => sD np nl nc len tim lim d (r + 1) h z mv nd) h z mv r (m + 1) nd = sLoop np nl nc len tim lim (fun h z mv nd => sD np nl nc len tim lim d (r + 1) h z mv nd) h z mv r m n1 →
        ∃ rr M', h_S_tryFrom_37 gg f (nI a) (nI r) (nI (z a (h a - 1))) (nI (bd tim h z np) - bI (bpB tim h z (z a (h a - 1)))) (nI b + 1) M1 = some (rr, M') ∧ frC M M' ∧ rowEnd np nl nc len tim lim (fun h z mv nd => sD np nl nc len tim lim d (r + 1) h z mv nd) h z mv r (m + 1) (np * np - (a + 1) * np) nd rr M' := by
      intro M1 n1 hn1 fr1 sc1 es
      obtain ⟨rr, M', f1, f2, f3⟩ := ih f (b + 1) n1 M1 (by omega) (by omega) (by omega) sc1
      rw [hm2] at f3
      refine ⟨rr, M', by rw [e1]; exact f1, fr1.trans f2, ?_⟩
      rcases f3 with ⟨l, n, g1, g2⟩ | ⟨n, g0, g1, g2⟩ | ⟨n, g1, g2⟩
      · exact Or.inl ⟨l, n, es.trans g1, g2⟩
      · exact Or.inr (Or.inl ⟨n, by omega, es.trans g1, g2⟩)
      · exact Or.inr (Or.inr ⟨n, es.trans g1, g2⟩)
    have eS := sLoop_at (nl := nl) (nc := nc) (len := len) (tim := tim) (lim := lim) (child := fun h z mv nd => sD np nl nc len tim lim d (r + 1) h z mv nd) (h := h) (z := z) (mv := mv) (r := r) nd hma hmb
    by_cases hab : b = a
    · rw [if_pos (by rw [hab])]
      refine skip (Nat.le_refl _) frC.rf sc ?_
      rw [eS, if_pos (by unfold sSkip; simp [hab])]
    · rw [if_neg (fun q => hab ((nI_eq (by omega) (by omega)).mp q)), pr_rd rfl (by omega) (by omega), sc.1.2.2.2.2.2.1 _ hz, pr_cc (ev_takes sc.1 w hb4 _)]
      cases ht : tkB nl len h z b (len (z a (h a - 1))) with
      | false =>
        rw [if_pos (show bI false = 0 from rfl)]
        refine skip (Nat.le_refl _) frC.rf sc ?_
        rw [eS, if_pos (by unfold sSkip; simp [ht])]
      | true =>
        rw [if_neg (show ¬ bI true = 0 by decide)]
        have hskip : ¬ sSkip nl len h z a b = true := by
          unfold sSkip
          rw [ht]
          simp only [Bool.not_true, Bool.or_false, Bool.or_eq_true, decide_eq_true_eq, not_or]
          exact ⟨fun q => hab q.symm, by omega⟩
        rw [if_neg hskip] at eS
        have htk : h b < nl := by
          unfold tkB at ht
          rw [Bool.and_eq_true, decide_eq_true_eq] at ht
          exact ht.1
        rw [sc.2.2.2.1]
        cases nd with
        | zero =>
          rw [if_pos (show nI 0 = 0 from rfl), pr_st]
          refine ⟨0, _, rfl, ⟨fun c hc => pr_upN (fun q => hc (by simp [q])), fun j h3 _ _ => by rw [pr_upS, pr_uN h3]⟩, Or.inr (Or.inr ⟨0, eS, rfl, ?_⟩)⟩
          refine ⟨sc.1.stays (fun c hc => pr_upN (by omega)), ⟨by rw [pr_upS, pr_uN (by decide)]; exact sc.2.1.1, fun j q hq => by rw [pr_upN (by decide), pr_upN (by decide), pr_upN (by decide)]; exact sc.2.1.2 j q hq⟩, ?_, ?_, ?_⟩
          · rw [pr_upS, pr_uS]; rfl
          · rw [pr_upS, pr_uN (by decide)]; exact sc.2.2.2.1
          · rw [pr_upS, pr_uN (by decide)]; exact sc.2.2.2.2
        | succ n =>
          rw [if_neg (fun q => by have := (pr_0 (show n + 1 < 2 ^ 31 by omega)).mp q; omega), pr_st]
          obtain ⟨M8, eM8⟩ : ∃ M8, M8 = kb_up M 2 (upd (M 2) 4 (nI (n + 1) - 1)) := ⟨_, rfl⟩
          rw [← eM8]
          have sc8 : sC np nl nc len tim lim h z mv 0 n M8 := by
            subst eM8
            refine ⟨sc.1.stays (fun c hc => pr_upN (by omega)), ⟨by rw [pr_upS, pr_uN (by decide)]; exact sc.2.1.1, fun j q hq => by rw [pr_upN (by decide), pr_upN (by decide), pr_upN (by decide)]; exact sc.2.1.2 j q hq⟩, ?_, ?_, ?_⟩
            · rw [pr_upS, pr_uN (by decide)]; exact sc.2.2.1
            · rw [pr_upS, pr_uS]; exact nI_pred n
            · rw [pr_upS, pr_uN (by decide)]; exact sc.2.2.2.2
          have fr8 : frC M M8 := by
            subst eM8
            exact ⟨fun c hc => pr_upN (fun q => hc (by simp [q])), fun j _ h4 _ => by rw [pr_upS, pr_uN h4]⟩
          rw [pr_cc (ev_wouldBlockOn sc8.1 w hz hb4)]
          have ok : mvOk np nl (h, z) (z a (h a - 1), a, some b) := ⟨ha, rfl, fun b' q => by cases q; exact ⟨hbp, hab, htk⟩⟩
          have hrel := bd_relift w ha hbp (fun q => hab q.symm)
          have hbb : bN (bpB tim h z (z a (h a - 1))) ≤ bd tim h z np := by
            have := bd_pop (tim := tim) (z := z) hap ha
            rw [bpB_t w (show h a - 1 < h a by omega)]; omega
          have h20 : bd tim h z np ≤ 12 := by omega
          have hw1 : bN (wb tim (z b) (tu tim (z a (h a - 1))) 0 (h b)) ≤ 1 := by cases wb tim (z b) (tu tim (z a (h a - 1))) 0 (h b) <;> decide
          generalize hB : bd tim (mvA (h, z) (z a (h a - 1), a, some b)).1 (mvA (h, z) (z a (h a - 1), a, some b)).2 np = B at *
          have hval : nI (bd tim h z np) - bI (bpB tim h z (z a (h a - 1))) + bI (wb tim (z b) (tu tim (z a (h a - 1))) 0 (h b)) = nI B := by
            have hb1 : ∀ x, bI x = nI (bN x) := by intro x; cases x <;> rfl
            rw [hb1, hb1, pk_sub hbb, nI_add]
            congr 1
            omega
          have w2 := mvA_wf w ok
          obtain ⟨l1, l2, l3, l4, l5, l6⟩ := lvF_ok (np := np) (nl := nl) (nc := nc) (tim := tim) (z := (mvA (h, z) (z a (h a - 1), a, some b)).2) 10 w2
          -- behind the test of the limit
          have after : ∃ rr M', h_S_tryFrom_120 gg (fun y0 y1 y2 y3 y4 N => h_S_tryFrom_37 gg f y0 y1 y2 y3 y4 N) (nI a) (nI r) (nI (z a (h a - 1))) (nI (bd tim h z np) - bI (bpB tim h z (z a (h a - 1)))) (nI b) (bI (wb tim (z b) (tu tim (z a (h a - 1))) 0 (h b))) (nI (bd tim h z np) - bI (bpB tim h z (z a (h a - 1)))) M8 = some (rr, M') ∧ frC M M' ∧ rowEnd np nl nc len tim lim (fun h z mv nd => sD np nl nc len tim lim d (r + 1) h z mv nd) h z mv r (m + 1) (np * np - (a + 1) * np) (n + 1) rr M' := by
            unfold h_S_tryFrom_120
            rw [hval, sc8.2.2.2.2, show nI r + (1 : Int32) = nI (r + 1) from nI_1 r, nI_add]
            by_cases hl : lim < r + 1 + B
            · rw [if_pos (nI_lt hl (by omega))]
              refine skip (by omega) fr8 sc8 ?_
              rw [eS]
              dsimp only
              rw [if_neg, if_pos]
              · rw [l4, hB]; exact hl
              · intro q
                cases e2 : nwF tim (lvF tim (mvA (h, z) (z a (h a - 1), a, some b)).2 nc 10 (mvA (h, z) (z a (h a - 1), a, some b)).1).1 (mvA (h, z) (z a (h a - 1), a, some b)).2 nc with
                | none =>
                  have h0 := bd_none l1 e2 np
                  rw [l4, hB] at h0
                  have := sn.bd1
                  omega
                | some x => rw [e2] at q; cases q
            · rw [if_neg (nI_nlt (by omega) (by omega))]
              obtain ⟨rr, M9, g1, g2, g3⟩ := ev_tryOne hg sn ok (by rw [hB]; omega) (by omega) hd sc8
              rw [hB] at g1
              rw [pr_cc g1]
              dsimp only at eS
              rw [l4, hB, if_neg (c := lim < r + 1 + B) hl] at eS
              rcases g3 with ⟨l, n', eR, rfl, k1, k2, k3⟩ | ⟨n', eR, rfl, k1⟩ | ⟨n', eR, rfl, k1⟩
              · rw [if_neg (show ¬ (1 : Int32) = 0 by decide)]
                refine ⟨1, M9, rfl, fr8.trans g2, Or.inl ⟨l, n', ?_, rfl, k1, k2, k3⟩⟩
                rw [eS]
                split at eR
                · rename_i q; rw [if_pos q]; exact eR
                · rename_i q; rw [if_neg q, eR]
              · rw [if_pos rfl]
                split at eR
                · cases eR
                · rename_i q
                  have hle := sD_le _ _ _ _ _ _ n' (by rw [eR])
                  refine skip (by omega) (fr8.trans g2) k1 ?_
                  rw [eS, if_neg q, eR]
              · rw [if_pos rfl]
                split at eR
                · cases eR
                · rename_i q
                  -- cut: the loop ends at its next turn
                  have es : sLoop np nl nc len tim lim (fun h z mv nd => sD np nl nc len tim lim d (r + 1) h z mv nd) h z mv r (m + 1) (n + 1) = (none, none) := by rw [eS, if_neg q, eR]
                  obtain ⟨f, rfl⟩ : ∃ g, f = g + 1 := ⟨f - 1, by omega⟩
                  show ∃ rr M', h_S_tryFrom_37 gg (f + 1) (nI a) (nI r) (nI (z a (h a - 1))) (nI (bd tim h z np) - bI (bpB tim h z (z a (h a - 1)))) (nI b + 1) M9 = some (rr, M') ∧ _
                  rw [h_S_tryFrom_37]
                  refine ⟨0, M9, ?_, fr8.trans g2, Or.inr (Or.inr ⟨n', es, rfl, k1⟩)⟩
                  by_cases q2 : M9 1 0 ≤ nI b + 1
                  · rw [if_pos q2]
                  · rw [if_neg q2, k1.2.2.1, if_neg (show ¬ nI 1 = 0 by decide)]
          cases hw : wb tim (z b) (tu tim (z a (h a - 1))) 0 (h b) with
          | false => rw [hw] at after; rw [if_pos (show bI false = 0 from rfl)]; exact after
          | true => rw [hw] at after; rw [if_neg (show ¬ bI true = 0 by decide)]; exact after
end QE
