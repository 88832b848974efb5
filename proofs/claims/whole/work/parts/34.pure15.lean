/-! THE PURE PART 15: the reference's loop makes the search -/
/-- the depths up to r stay, and the first ml moves; of the choices those below r -/
def frN (r ml : Nat) (N N' : Nat → Nat → Int32) : Prop := (∀ c, c ∉ [5, 6, 7, 8, 9, 10, 11] → N' c = N c) ∧ (∀ j, j < 20 * (r + 1) → N' 5 j = N 5 j) ∧ (∀ j, j < 4 * (r + 1) → N' 6 j = N 6 j) ∧ (∀ e, e ≤ r → N' 7 e = N 7 e ∧ N' 11 e = N 11 e) ∧ (∀ e, e < r → N' 8 e = N 8 e) ∧ (∀ j, j < ml → N' 9 j = N 9 j ∧ N' 10 j = N 10 j)
theorem frN.rf {r ml : Nat} {N : Nat → Nat → Int32} : frN r ml N N := ⟨fun _ _ => rfl, fun _ _ => rfl, fun _ _ => rfl, fun _ _ => ⟨rfl, rfl⟩, fun _ _ => rfl, fun _ _ => ⟨rfl, rfl⟩⟩
theorem frN.trans {r ml : Nat} {A B C : Nat → Nat → Int32} (h1 : frN r ml A B) (h2 : frN r ml B C) : frN r ml A C :=
  ⟨fun c hc => (h2.1 c hc).trans (h1.1 c hc), fun j hj => (h2.2.1 j hj).trans (h1.2.1 j hj), fun j hj => (h2.2.2.1 j hj).trans (h1.2.2.1 j hj), fun e he => ⟨(h2.2.2.2.1 e he).1.trans (h1.2.2.2.1 e he).1, (h2.2.2.2.1 e he).2.trans (h1.2.2.2.1 e he).2⟩, fun e he => (h2.2.2.2.2.1 e he).trans (h1.2.2.2.2.1 e he), fun j hj => ⟨(h2.2.2.2.2.2 j hj).1.trans (h1.2.2.2.2.2 j hj).1, (h2.2.2.2.2.2 j hj).2.trans (h1.2.2.2.2.2 j hj).2⟩⟩
theorem frN.mono {r r' ml ml' : Nat} {A B : Nat → Nat → Int32} (h : frN r ml A B) (hr : r' ≤ r) (hm : ml' ≤ ml) : frN r' ml' A B :=
  ⟨h.1, fun j hj => h.2.1 j (by omega), fun j hj => h.2.2.1 j (by omega), fun e he => h.2.2.2.1 e (by omega), fun e he => h.2.2.2.2.1 e (by omega), fun j hj => h.2.2.2.2.2 j (by omega)⟩
/-- a plan stands in the reference's rows -/
def plM (x : List (Nat × Nat × Option Nat)) (N : Nat → Nat → Int32) : Prop := N 0 17 = 1 ∧ N 0 18 = nI x.length ∧ ∀ j q, x[j]? = some q → N 9 j = nI q.1 ∧ N 10 j = oI q.2.2
/-- what a found plan leaves as it was -/
def frP (N N' : Nat → Nat → Int32) : Prop := (∀ c, c ∉ [0, 5, 6, 7, 8, 9, 10, 11] → N' c = N c) ∧ (∀ j, j ≠ 17 → j ≠ 18 → N' 0 j = N 0 j) ∧ (∀ j, j < 20 → N' 5 j = N 5 j) ∧ (∀ j, j < 4 → N' 6 j = N 6 j) ∧ N' 7 0 = N 7 0
theorem frN.thenP {r ml : Nat} {A B C : Nat → Nat → Int32} (h1 : frN r ml A B) (h2 : frP B C) : frP A C := by
  refine ⟨fun c hc => (h2.1 c hc).trans (h1.1 c (fun q => hc (by simp at q ⊢; omega))), fun j a b => (h2.2.1 j a b).trans (by rw [h1.1 0 (by decide)]), fun j hj => (h2.2.2.1 j hj).trans (h1.2.1 j (by omega)), fun j hj => (h2.2.2.2.1 j hj).trans (h1.2.2.1 j (by omega)), h2.2.2.2.2.trans (h1.2.2.2.1 0 (Nat.zero_le _)).1⟩
def nodeEnd (np : Nat) (lim r ml m nd fuel : Nat) (N : Nat → Nat → Int32) (R : Option (List (Nat × Nat × Option Nat)) × Option Nat) : Prop :=
  (∃ x n N', R = (some x, some n) ∧ n ≤ nd ∧ h_M_round_50 fuel (nI lim) (nI nd) (nI (r + 1)) N = some (nI n, N') ∧ plM x N' ∧ frP N N') ∨
  (∃ N', R = (none, none) ∧ h_M_round_50 fuel (nI lim) (nI nd) (nI (r + 1)) N = some (-1, N') ∧ frN 0 0 N N') ∨
  (∃ n N' fuel', R = (none, some n) ∧ n ≤ nd ∧ h_M_round_50 fuel (nI lim) (nI nd) (nI (r + 1)) N = h_M_round_50 fuel' (nI lim) (nI n) (nI r) N' ∧ fuel ≤ fuel' + 17 * (nd - n) + m + 1 ∧ frN r ml N N' ∧ N' 8 r = N 8 r + 1)
theorem h50_head {f r c np : Nat} {u1 u3 A B r8 : Int32} {N : Nat → Nat → Int32} (hr : r + 1 < 15) (hch : N 8 (r + 1) = nI c) (hnp : N 0 1 = nI np) (h1 : 1 ≤ np) (h4 : np ≤ 4) (hc : c < np * np) (hA : nI c / nI np = A) (hB : nI c - nI c / nI np * nI np = B) (ht : f_M_topOf (nI (r + 1)) A N = some (r8, N)) : h_M_round_50 (f + 1) u1 u3 (nI (r + 1)) N = (if A = B then h_M_round_153 (fun y0 y1 y2 N => h_M_round_50 f y0 y1 y2 N) u1 u3 (nI (r + 1)) N else (if r8 < (0 : Int32) then h_M_round_153 (fun y0 y1 y2 N => h_M_round_50 f y0 y1 y2 N) u1 u3 (nI (r + 1)) N else kb_rd (N 2) 10 r8 (fun v12 => kb_cl (f_M_takes (nI (r + 1)) B v12 N) (fun r13 M14 => (if r13 = (0 : Int32) then h_M_round_153 (fun y0 y1 y2 N => h_M_round_50 f y0 y1 y2 N) u1 u3 (nI (r + 1)) M14 else (if u3 = (0 : Int32) then some ((-1 : Int32), M14) else kb_cl (f_M_copy (nI (r + 1)) ((nI (r + 1)) + (1 : Int32)) M14) (fun r15 M16 => kb_cl (f_M_lift ((nI (r + 1)) + (1 : Int32)) A B M16) (fun r17 M18 => kb_cl (f_M_says ((nI (r + 1)) + (1 : Int32)) r8 B M18) (fun r19 M20 => kb_cl (f_M_leaves ((nI (r + 1)) + (1 : Int32)) M20) (fun r21 M22 => (if r21 = (0 : Int32) then kb_cl (f_M_boundAt ((nI (r + 1)) + (1 : Int32)) M22) (fun r23 M24 => (if ((nI (r + 1)) + r23) ≤ u1 then kb_wr M24 8 15 ((nI (r + 1)) + 1) (0 : Int32) (fun M25 => h_M_round_50 f u1 (u3 + (-1)) ((nI (r + 1)) + 1) M25) else kb_rd (M24 8) 15 (nI (r + 1)) (fun v26 => kb_wr M24 8 15 (nI (r + 1)) (v26 + (1 : Int32)) (fun M27 => h_M_round_50 f u1 (u3 + (-1)) (nI (r + 1)) M27)))) else kb_st (kb_up M22 0 (upd (M22 0) 17 (1 : Int32))) (fun M28 => kb_rd (M28 11) 15 ((nI (r + 1)) + (1 : Int32)) (fun v29 => kb_st (kb_up M28 0 (upd (M28 0) 18 v29)) (fun M30 => some ((u3 + (-1)), M30))))))))))))))) := by
  have hnn : np * np ≤ 16 := Nat.mul_le_mul h4 h4
  subst hA hB
  rw [h_M_round_50, if_neg (show ¬ nI (r + 1) ≤ (0 : Int32) from nI_ge (a := 0) (by omega) (by omega)), pr_rd rfl (by omega) (by omega), hch, hnp, pk_mul, if_neg (fun q => by have := (nI_eq (by omega) (by omega)).mp q; omega)]
  unfold kb_nd
  rw [if_neg (fun q => by have := (pr_0 (by omega)).mp q; omega), if_neg (fun q => by have := (pr_0 (by omega)).mp q; omega), pr_cc ht]
section QI
variable {np nl nc lim : Nat} {len tim : Nat → Int32}
theorem yM.frN {d r ml : Nat} {h : Nat → Nat} {z : Nat → Nat → Nat} {N N' : Nat → Nat → Int32} (w : yWF np nl nc tim h z) (f : frN r ml N N') (hd : d ≤ r) (y : yM np nl nc len tim d h z N) : yM np nl nc len tim d h z N' := by
  obtain ⟨a1, a2, a3, a4, a5, a6, a7, g, g1, g2, g3⟩ := y
  obtain ⟨k1, k2, k3, k4, k5, k6⟩ := f
  have hl := w.2.2.2.2.1
  have hl5 := w.2.2.1
  refine ⟨by rw [k1 0 (by decide)]; exact a1, by rw [k1 0 (by decide)]; exact a2, by rw [k1 0 (by decide)]; exact a3, fun k hk => by rw [k3 _ (by omega)]; exact a4 k hk, fun k i hk hi => ?_, fun p hp => by rw [k1 2 (by decide)]; exact a6 p hp, fun p hp => by rw [k1 3 (by decide)]; exact a7 p hp, g, g1, by rw [(k4 d hd).1]; exact g2, g3⟩
  have := hl k
  rw [k2 _ (by omega)]
  exact a5 k i hk hi
theorem mvM.frN {d r : Nat} {mv : List (Nat × Nat × Option Nat)} {N N' : Nat → Nat → Int32} (f : frN r mv.length N N') (hd : d ≤ r) (m : mvM mv d N) : mvM mv d N' := by
  refine ⟨by rw [(f.2.2.2.1 d hd).2]; exact m.1, fun j q hq => ?_⟩
  have hj : j < mv.length := by
    rcases Nat.lt_or_ge j mv.length with s | s
    · exact s
    · rw [List.getElem?_eq_none s] at hq; cases hq
  rw [(f.2.2.2.2.2 j hj).1, (f.2.2.2.2.2 j hj).2]
  exact m.2 j q hq
theorem em_node (hlim : lim ≤ 12) : ∀ (d r : Nat) (h : Nat → Nat) (z : Nat → Nat → Nat) (mv : List (Nat × Nat × Option Nat)), sNode np nl nc tim lim h z mv r → 13 ≤ d + (r + 1) → ∀ (m fuel nd : Nat) (N : Nat → Nat → Int32), m ≤ np * np → 17 * nd + m + 1 < fuel → nd ≤ 100000 → yM np nl nc len tim (r + 1) h z N → mvM mv (r + 1) N → N 8 (r + 1) = nI (np * np - m) →
    nodeEnd np lim r mv.length m nd fuel N (sLoop np nl nc len tim lim (fun h z mv nd => sD np nl nc len tim lim d (r + 1) h z mv nd) h z mv r m nd) := by
  intro d
  induction d with
  | zero =>
    intro r h z mv sn hd
    have := sn.bd1
    obtain ⟨w, _, hbd, _⟩ := sn
    omega
  | succ d ihd =>
    intro r h z mv sn hd m
    have hb1 := sn.bd1
    obtain ⟨w, hnx, hbd, _, hln⟩ := id sn
    have h1 := w.1
    have h4 := w.2.1
    have hnc := w.2.2.2.1
    have hl := w.2.2.2.2.1
    have hl5 := w.2.2.1
    have htot := tot_le w
    have hnn : np * np ≤ 16 := Nat.mul_le_mul h4 h4
    have hr11 : r ≤ 11 := by omega
    induction m with
    | zero =>
      intro fuel nd N hm hf hnd y mm hch
      obtain ⟨f, rfl⟩ : ∃ g, fuel = g + 1 := ⟨fuel - 1, by omega⟩
      refine Or.inr (Or.inr ⟨nd, kb_up N 8 (upd (N 8) r (N 8 r + 1)), f, rfl, Nat.le_refl _, ?_, by omega, ?_, ?_⟩)
      · rw [h_M_round_50, if_neg (show ¬ nI (r + 1) ≤ (0 : Int32) from nI_ge (a := 0) (by omega) (by omega)), pr_rd rfl (by omega) (by omega), hch, y.1, pk_mul, Nat.sub_zero, if_pos rfl]
        have e : nI (r + 1) + (-1) = nI r := pk_m1 r
        rw [pr_rd e (by omega) (by omega), pr_wr e (by omega) (by omega), e]
      · refine ⟨fun c hc => pr_upN (fun q => hc (by simp [q])), fun j _ => by rw [pr_upN (by decide)], fun j _ => by rw [pr_upN (by decide)], fun e _ => ⟨by rw [pr_upN (by decide)], by rw [pr_upN (by decide)]⟩, fun e he => by rw [pr_upS, pr_uN (by omega)], fun j _ => ⟨by rw [pr_upN (by decide)], by rw [pr_upN (by decide)]⟩⟩
      · rw [pr_upS, pr_uS]
    | succ m ihm =>
      intro fuel nd N hm hf hnd y mm hch
      obtain ⟨f, rfl⟩ : ∃ g, fuel = g + 1 := ⟨fuel - 1, by omega⟩
      obtain ⟨c, hc⟩ : ∃ c, c = np * np - (m + 1) := ⟨_, rfl⟩
      have hcl : c < np * np := by omega
      obtain ⟨a, hma⟩ : ∃ a, (np * np - (m + 1)) / np = a := ⟨_, rfl⟩
      obtain ⟨b, hmb⟩ : ∃ b, (np * np - (m + 1)) % np = b := ⟨_, rfl⟩
      have hap : a < np := by rw [← hma, ← hc]; exact Nat.div_lt_of_lt_mul hcl
      have hbp : b < np := by rw [← hmb]; exact Nat.mod_lt _ (by omega)
      have ha4 : a < 4 := by omega
      have hb4 : b < 4 := by omega
      have eS := sLoop_at (nl := nl) (nc := nc) (len := len) (tim := tim) (lim := lim) (child := fun h z mv nd => sD np nl nc len tim lim (d + 1) (r + 1) h z mv nd) (h := h) (z := z) (mv := mv) (r := r) nd hma hmb
      have ediv : nI c / nI np = nI a := by rw [pk_div (by omega) (by omega) (by omega), ← hma, hc]
      have erem : nI c - nI c / nI np * nI np = nI b := by rw [pk_rem (by omega) (by omega) (by omega), ← hmb, hc]
      -- the loop goes on with one choice less, from N1 with n1 nodes and fuel f1
      have goesOn : ∀ (N1 : Nat → Nat → Int32) (n1 f1 : Nat), n1 ≤ nd → frN (r + 1) mv.length N N1 → N1 8 (r + 1) = nI (np * np - m) → f + 1 ≤ f1 + 17 * (nd - n1) + 1 → h_M_round_50 (f + 1) (nI lim) (nI nd) (nI (r + 1)) N = h_M_round_50 f1 (nI lim) (nI n1) (nI (r + 1)) N1 → sLoop np nl nc len tim lim (fun h z mv nd => sD np nl nc len tim lim (d + 1) (r + 1) h z mv nd) h z mv r (m + 1) nd = sLoop np nl nc len tim lim (fun h z mv nd => sD np nl nc len tim lim (d + 1) (r + 1) h z mv nd) h z mv r m n1 →
          nodeEnd np lim r mv.length (m + 1) nd (f + 1) N (sLoop np nl nc len tim lim (fun h z mv nd => sD np nl nc len tim lim (d + 1) (r + 1) h z mv nd) h z mv r (m + 1) nd) := by
        intro N1 n1 f1 hn1 fr1 hc1 hf1 he hs
        have h2 := ihm f1 n1 N1 (by omega) (by omega) (by omega) (yM.frN w fr1 (Nat.le_refl _) y) (mvM.frN fr1 (Nat.le_refl _) mm) hc1
        rw [hs]
        rcases h2 with ⟨x, n, N2, e1, e2, e3, e4, e5⟩ | ⟨N2, e1, e2, e3⟩ | ⟨n, N2, f2, e1, e2, e3, e4, e5, e6⟩
        · exact Or.inl ⟨x, n, N2, e1, by omega, he.trans e3, e4, fr1.thenP e5⟩
        · exact Or.inr (Or.inl ⟨N2, e1, he.trans e2, (fr1.mono (by omega) (by omega)).trans e3⟩)
        · refine Or.inr (Or.inr ⟨n, N2, f2, e1, by omega, he.trans e3, by omega, (fr1.mono (by omega) (Nat.le_refl _)).trans e5, ?_⟩)
          rw [e6, fr1.2.2.2.2.1 r (by omega)]
      -- one choice further
      have bump : ∀ (N1 : Nat → Nat → Int32), N1 8 (r + 1) = nI c → frN (r + 1) mv.length N N1 → frN (r + 1) mv.length N (kb_up N1 8 (upd (N1 8) (r + 1) (nI c + 1))) ∧ kb_up N1 8 (upd (N1 8) (r + 1) (nI c + 1)) 8 (r + 1) = nI (np * np - m) := by
        intro N1 hn1 fr1
        refine ⟨fr1.trans ⟨fun c hc => pr_upN (fun q => hc (by simp [q])), fun j _ => by rw [pr_upN (by decide)], fun j _ => by rw [pr_upN (by decide)], fun e _ => ⟨by rw [pr_upN (by decide)], by rw [pr_upN (by decide)]⟩, fun e he => by rw [pr_upS, pr_uN (by omega)], fun j _ => ⟨by rw [pr_upN (by decide)], by rw [pr_upN (by decide)]⟩⟩, ?_⟩
        rw [pr_upS, pr_uS, show nI c + 1 = nI (c + 1) from nI_1 c, show c + 1 = np * np - m by omega]
      have hch2 : N 8 (r + 1) = nI c := by rw [hch, hc]
      have e153 : h_M_round_153 (fun y0 y1 y2 N => h_M_round_50 f y0 y1 y2 N) (nI lim) (nI nd) (nI (r + 1)) N = h_M_round_50 f (nI lim) (nI nd) (nI (r + 1)) (kb_up N 8 (upd (N 8) (r + 1) (nI c + 1))) := by
        unfold h_M_round_153
        rw [pr_rd rfl (by omega) (by omega), hch2, pr_wr rfl (by omega) (by omega)]
      have hb0 := bump N hch2 frN.rf
      have head := h50_head (f := f) (u1 := nI lim) (u3 := nI nd) (show r + 1 < 15 by omega) hch2 y.1 h1 h4 hcl ediv erem (em_topOf y w (by omega) ha4)
      by_cases hab : a = b
      · refine goesOn _ nd f (Nat.le_refl _) hb0.1 hb0.2 (by omega) ?_ ?_
        · rw [head, if_pos (by rw [hab]), e153]
        · rw [eS, if_pos (by unfold sSkip; simp [hab])]
      · have hne : ¬ nI a = nI b := fun q => hab ((nI_eq (by omega) (by omega)).mp q)
        by_cases h0 : h a = 0
        · refine goesOn _ nd f (Nat.le_refl _) hb0.1 hb0.2 (by omega) ?_ ?_
          · rw [head, if_neg hne, if_pos h0, if_pos (by decide), e153]
          · rw [eS, if_pos (by unfold sSkip; simp [h0])]
        · have hz := w.2.2.2.2.2.2.1 a (h a - 1) (by omega)
          have hla := hl a
          cases ht : tkB nl len h z b (len (z a (h a - 1))) with
          | false =>
            refine goesOn _ nd f (Nat.le_refl _) hb0.1 hb0.2 (by omega) ?_ ?_
            · rw [head, if_neg hne, if_neg h0, if_neg (nI_pos (by omega)), pr_rd rfl (by omega) (by omega), y.2.2.2.2.2.1 _ hz, pr_cc (em_takes y w (by omega) hb4 _), ht, if_pos (show bI false = 0 from rfl), e153]
            · rw [eS, if_pos (by unfold sSkip; simp [ht])]
          | true =>
            have hskip : ¬ sSkip nl len h z a b = true := by
              unfold sSkip
              rw [ht]
              simp only [Bool.not_true, Bool.or_false, Bool.or_eq_true, decide_eq_true_eq, not_or]
              exact ⟨hab, h0⟩
            rw [if_neg hskip] at eS
            have htk : h b < nl := by
              unfold tkB at ht
              rw [Bool.and_eq_true, decide_eq_true_eq] at ht
              exact ht.1
            have head2 := head
            rw [if_neg hne, if_neg h0, if_neg (nI_pos (by omega)), pr_rd rfl (by omega) (by omega), y.2.2.2.2.2.1 _ hz, pr_cc (em_takes y w (by omega) hb4 _), ht, if_neg (show ¬ bI true = 0 by decide)] at head2
            cases nd with
            | zero =>
              rw [if_pos (show nI 0 = 0 from rfl)] at head2
              exact Or.inr (Or.inl ⟨N, eS, head2, frN.rf⟩)
            | succ n =>
              rw [if_neg (fun q => by have := (pr_0 (show n + 1 < 2 ^ 31 by omega)).mp q; omega)] at head2
              have ok : mvOk np nl (h, z) (z a (h a - 1), a, some b) := ⟨by show 0 < h a; omega, rfl, fun b' q => by cases q; exact ⟨hbp, fun q => hab q.symm, htk⟩⟩
              have eD : nI (r + 1) + (1 : Int32) = nI (r + 2) := nI_1 (r + 1)
              have eN : nI (n + 1) + (-1 : Int32) = nI n := pk_m1 n
              rw [eD, eN] at head2
              obtain ⟨N1, f1, c1⟩ := em_copy (a := r + 1) (b := r + 2) (by omega) (by omega) (by omega) N
              have y1 := cpM_yM c1 w y
              have htr := tot_relift w (show 0 < h a by omega) hbp hab (z a (h a - 1))
              have w2 := mvA_wf w ok
              obtain ⟨N2, f2, y2, k5, k6, kc⟩ := em_lift y1 w (by omega) ok
              rw [pr_cc f1, pr_cc f2] at head2
              have m2 : mvM mv (r + 2) N2 := by
                refine ⟨by rw [kc 11 (by decide), c1.2.2.2.1]; exact mm.1, fun j q hq => ?_⟩
                rw [kc 9 (by decide), kc 10 (by decide), c1.2.2.2.2.2.2.2 9 (by decide), c1.2.2.2.2.2.2.2 10 (by decide)]
                exact mm.2 j q hq
              obtain ⟨N3, f3, m3, s3, t3, u3⟩ := em_says m2 (by omega) (by omega) (z a (h a - 1)) a (some b)
              rw [show nI b = oI (some b) from rfl, pr_cc f3] at head2
              generalize hq : (z a (h a - 1), a, some b) = q at *
              have y3 : yM np nl nc len tim (r + 2) (mvA (h, z) q).1 (mvA (h, z) q).2 N3 := by
                unfold yM at y2 ⊢
                rw [s3 0 (by decide), s3 6 (by decide), s3 5 (by decide), s3 2 (by decide), s3 3 (by decide), s3 7 (by decide)]
                exact y2
              have htq : tot (mvA (h, z) q).1 np = tot h np := by rw [← hq]; rw [← hq] at htr; exact htr
              obtain ⟨l1, l2, l3, l4, l5, l6⟩ := lvF_ok (np := np) (nl := nl) (nc := nc) (tim := tim) (z := (mvA (h, z) q).2) 10 w2
              obtain ⟨N4, f4, y4, m4, r4⟩ := em_leaves (d := r + 2) (len := len) 10 kb_F (mv ++ [q]) (mvA (h, z) q).1 N3 (by unfold kb_F; omega) (by omega) (by omega) w2 y3 m3 (by simp; omega)
              have f4' : f_M_leaves (nI (r + 2)) N3 = some (bI (isN (nwF tim (lvF tim (mvA (h, z) q).2 nc 10 (mvA (h, z) q).1).1 (mvA (h, z) q).2 nc)), N4) := f4
              rw [pr_cc f4'] at head2
              generalize hlv : lvF tim (mvA (h, z) q).2 nc 10 (mvA (h, z) q).1 = lv at *
              rw [show (mv ++ [q]) ++ lv.2 = mv ++ q :: lv.2 by simp] at m4
              -- what has changed since the node
              have fr4 : frN (r + 1) mv.length N N4 := by
                obtain ⟨v1, v2, v3, v4⟩ := r4
                obtain ⟨p1, p2, p3, p4, p5, p6, p7, p8⟩ := c1
                have hll : mv.length ≤ (mv ++ [q]).length := by simp
                refine ⟨fun c hc => ?_, fun j hj => ?_, fun j hj => ?_, fun e he => ⟨?_, ?_⟩, fun e he => ?_, fun j hj => ⟨?_, ?_⟩⟩
                · rw [v1 c (fun q => hc (by simp at q ⊢; omega)), s3 c (fun q => hc (by simp at q ⊢; omega)), kc c (fun q => hc (by simp at q ⊢; omega)), p8 c (fun q => hc (by simp at q ⊢; omega))]
                · rw [v1 5 (by decide), s3 5 (by decide), k5 j (by omega), p5 j (by omega)]
                · rw [v2 j (by omega), s3 6 (by decide), k6 j (by omega), p6 j (by omega)]
                · rw [(v3 e (by omega)).1, s3 7 (by decide), kc 7 (by decide), (p7 e (by omega)).1]
                · rw [(v3 e (by omega)).2, t3 e (by omega), kc 11 (by decide), (p7 e (by omega)).2]
                · rw [v1 8 (by decide), s3 8 (by decide), kc 8 (by decide), p8 8 (by decide)]
                · rw [(v4 j (by omega)).1, (u3 j hj).1, kc 9 (by decide), p8 9 (by decide)]
                · rw [(v4 j (by omega)).2, (u3 j hj).2, kc 10 (by decide), p8 10 (by decide)]
              have ch4 : N4 8 (r + 1) = nI c := by
                obtain ⟨v1, _⟩ := r4
                rw [v1 8 (by decide), s3 8 (by decide), kc 8 (by decide), c1.2.2.2.2.2.2.2 8 (by decide)]
                exact hch2
              cases e : nwF tim lv.1 (mvA (h, z) q).2 nc with
              | none =>
                rw [e] at head2
                rw [if_neg (show ¬ bI (isN none) = 0 by decide), pr_st, pr_rd rfl (by omega) (by omega), pr_st] at head2
                have eS2 := eS
                dsimp only at eS2
                rw [e, if_pos (show isN none = true from rfl)] at eS2
                refine Or.inl ⟨_, n, _, eS2, by omega, head2, ⟨?_, ?_, fun j x hx => ?_⟩, fr4.thenP ⟨fun c hc => ?_, fun j a b => ?_, fun j _ => ?_, fun j _ => ?_, ?_⟩⟩
                · rw [pr_upS, pr_uN (by decide), pr_upS, pr_uS]
                · rw [pr_upS, pr_uS, pr_upN (by decide)]; exact m4.1
                · rw [pr_upN (by decide), pr_upN (by decide), pr_upN (by decide), pr_upN (by decide)]; exact m4.2 j x hx
                · rw [pr_upN (fun q => hc (by simp [q])), pr_upN (fun q => hc (by simp [q]))]
                · rw [pr_upS, pr_uN b, pr_upS, pr_uN a]
                · rw [pr_upN (by decide), pr_upN (by decide)]
                · rw [pr_upN (by decide), pr_upN (by decide)]
                · rw [pr_upN (by decide), pr_upN (by decide)]
              | some p =>
                rw [e] at head2
                rw [if_pos (show bI (isN (some p)) = 0 from rfl), pr_cc (em_boundAt y4 l1 (by omega)), nI_add] at head2
                have eS2 := eS
                dsimp only at eS2
                rw [e, if_neg (show ¬ isN (some p) = true from fun q => by cases q)] at eS2
                have hbd20 : bd tim lv.1 (mvA (h, z) q).2 np ≤ 20 := by
                  have hl1 := l1.2.2.2.2.1
                  have : ∀ k, bd tim lv.1 (mvA (h, z) q).2 k ≤ 5 * k := by
                    intro k
                    induction k with
                    | zero => exact Nat.le_refl _
                    | succ k ih =>
                      have e : bd tim lv.1 (mvA (h, z) q).2 (k + 1) = bd tim lv.1 (mvA (h, z) q).2 k + cbk tim ((mvA (h, z) q).2 k) (lv.1 k) := rfl
                      have := cbk_le (tim := tim) ((mvA (h, z) q).2 k) (lv.1 k)
                      have := hl1 k
                      omega
                  have := this np
                  omega
                by_cases hlm : lim < r + 1 + bd tim lv.1 (mvA (h, z) q).2 np
                · rw [if_neg (nI_ge hlm (by omega)), pr_rd rfl (by omega) (by omega), ch4, pr_wr rfl (by omega) (by omega)] at head2
                  rw [if_pos hlm] at eS2
                  have hb5 := bump N4 ch4 fr4
                  exact goesOn _ n f (by omega) hb5.1 hb5.2 (by omega) head2 eS2
                · rw [if_neg hlm] at eS2
                  rw [if_pos (nI_le (by omega) (by omega)), pr_wr (m := r + 2) rfl (by omega) (by omega)] at head2
                  obtain ⟨N5, e5⟩ : ∃ N5, N5 = kb_up N4 8 (upd (N4 8) (r + 2) (0 : Int32)) := ⟨_, rfl⟩
                  rw [← e5] at head2
                  have s5 : ∀ c, c ≠ 8 → N5 c = N4 c := fun c hc => by rw [e5, pr_upN hc]
                  have sn5 : sNode np nl nc tim lim lv.1 (mvA (h, z) q).2 (mv ++ q :: lv.2) (r + 1) := by
                    refine ⟨l1, ⟨p, e, l6 (by omega) p e⟩, by omega, hlim, ?_⟩
                    simp; omega
                  have y5 : yM np nl nc len tim (r + 1 + 1) lv.1 (mvA (h, z) q).2 N5 := by
                    unfold yM at y4 ⊢
                    rw [s5 0 (by decide), s5 6 (by decide), s5 5 (by decide), s5 2 (by decide), s5 3 (by decide), s5 7 (by decide)]
                    exact y4
                  have m5 : mvM (mv ++ q :: lv.2) (r + 1 + 1) N5 := by
                    unfold mvM at m4 ⊢
                    rw [s5 11 (by decide), s5 9 (by decide), s5 10 (by decide)]
                    exact m4
                  have fr5 : frN (r + 1) mv.length N N5 := by
                    refine fr4.trans ⟨fun c hc => s5 c (fun q => hc (by simp [q])), fun j _ => by rw [s5 5 (by decide)], fun j _ => by rw [s5 6 (by decide)], fun e _ => ⟨by rw [s5 7 (by decide)], by rw [s5 11 (by decide)]⟩, fun e he => by rw [e5, pr_upS, pr_uN (by omega)], fun j _ => ⟨by rw [s5 9 (by decide)], by rw [s5 10 (by decide)]⟩⟩
                  have ch5 : N5 8 (r + 1) = nI c := by rw [e5, pr_upS, pr_uN (by omega)]; exact ch4
                  have hch := ihd (r + 1) lv.1 (mvA (h, z) q).2 (mv ++ q :: lv.2) sn5 (by omega) (np * np) f n N5 (Nat.le_refl _) (by omega) (by omega) y5 m5 (by rw [Nat.sub_self, e5, pr_upS, pr_uS]; rfl)
                  have hll : mv.length ≤ (mv ++ q :: lv.2).length := by simp
                  have eC : sD np nl nc len tim lim (d + 1) (r + 1) lv.1 (mvA (h, z) q).2 (mv ++ q :: lv.2) n = sLoop np nl nc len tim lim (fun h z mv nd => sD np nl nc len tim lim d (r + 1 + 1) h z mv nd) lv.1 (mvA (h, z) q).2 (mv ++ q :: lv.2) (r + 1) (np * np) n := rfl
                  rw [← eC] at hch
                  rcases hch with ⟨x, n', N6, g1, g2, g3, g4, g5⟩ | ⟨N6, g1, g2, g3⟩ | ⟨n', N6, f6, g1, g2, g3, g4, g5, g6⟩
                  · rw [g1] at eS2
                    exact Or.inl ⟨x, n', N6, eS2, by omega, head2.trans g3, g4, fr5.thenP g5⟩
                  · rw [g1] at eS2
                    exact Or.inr (Or.inl ⟨N6, eS2, head2.trans g2, (fr5.mono (by omega) (by omega)).trans g3⟩)
                  · rw [g1] at eS2
                    have hc6 : N6 8 (r + 1) = nI (np * np - m) := by
                      rw [g6, ch5, show nI c + 1 = nI (c + 1) from nI_1 c, show c + 1 = np * np - m by omega]
                    refine goesOn N6 n' f6 (by omega) (fr5.trans (g5.mono (Nat.le_refl _) hll)) hc6 (by omega) (head2.trans g3) eS2
end QI
