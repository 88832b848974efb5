/-! THE PURE PART 6: moves: (piece, from, to; none: it leaves); noted and taken back by the class -/
def mvA (s : (Nat → Nat) × (Nat → Nat → Nat)) (q : Nat × Nat × Option Nat) : (Nat → Nat) × (Nat → Nat → Nat) := match q.2.2 with
  | none => (hU s.1 q.2.1 (s.1 q.2.1 - 1), s.2)
  | some b => (hU (hU s.1 q.2.1 (s.1 q.2.1 - 1)) b (s.1 b + 1), zU s.2 b (s.1 b) q.1)
def mvR (s : (Nat → Nat) × (Nat → Nat → Nat)) : List (Nat × Nat × Option Nat) → (Nat → Nat) × (Nat → Nat → Nat)
  | [] => s
  | q :: l => mvR (mvA s q) l
def mvOk (np nl : Nat) (s : (Nat → Nat) × (Nat → Nat → Nat)) (q : Nat × Nat × Option Nat) : Prop := 0 < s.1 q.2.1 ∧ s.2 q.2.1 (s.1 q.2.1 - 1) = q.1 ∧ ∀ b, q.2.2 = some b → b < np ∧ b ≠ q.2.1 ∧ s.1 b < nl
def mvV (np nl : Nat) (s : (Nat → Nat) × (Nat → Nat → Nat)) : List (Nat × Nat × Option Nat) → Prop
  | [] => True
  | q :: l => mvOk np nl s q ∧ mvV np nl (mvA s q) l
theorem mvR_app (s : (Nat → Nat) × (Nat → Nat → Nat)) (l l' : List (Nat × Nat × Option Nat)) : mvR s (l ++ l') = mvR (mvR s l) l' := by
  induction l generalizing s with
  | nil => rfl
  | cons q l ih => exact ih (mvA s q)
theorem mvV_app {np nl : Nat} (s : (Nat → Nat) × (Nat → Nat → Nat)) (l l' : List (Nat × Nat × Option Nat)) : mvV np nl s (l ++ l') ↔ mvV np nl s l ∧ mvV np nl (mvR s l) l' := by
  induction l generalizing s with
  | nil => exact ⟨fun q => ⟨trivial, q⟩, fun q => q.2⟩
  | cons q l ih =>
    show mvOk np nl s q ∧ mvV np nl (mvA s q) (l ++ l') ↔ (mvOk np nl s q ∧ mvV np nl (mvA s q) l) ∧ _
    rw [ih (mvA s q), and_assoc]
    rfl
def mvC (mv : List (Nat × Nat × Option Nat)) (M : Nat → Nat → Int32) : Prop := M 2 6 = nI mv.length ∧ ∀ j q, mv[j]? = some q → M 11 j = nI q.1 ∧ M 12 j = nI q.2.1 ∧ M 13 j = oI q.2.2
/-- of the search's cell all but the moves' number stays -/
def stay2 (M M' : Nat → Nat → Int32) : Prop := ∀ j, j ≠ 6 → M' 2 j = M 2 j
theorem stay.trans {cs : List Nat} {A B C : Nat → Nat → Int32} (h1 : stay cs A B) (h2 : stay cs B C) : stay cs A C := fun c hc => (h2 c hc).trans (h1 c hc)
theorem stay.mono {cs cs' : List Nat} {A B : Nat → Nat → Int32} (h1 : stay cs A B) (h2 : ∀ c, c ∈ cs → c ∈ cs') : stay cs' A B := fun c hc => h1 c (fun q => hc (h2 c q))
theorem stay2.trans {A B C : Nat → Nat → Int32} (h1 : stay2 A B) (h2 : stay2 B C) : stay2 A C := fun c hc => (h2 c hc).trans (h1 c hc)
theorem stay.two {cs : List Nat} {A B : Nat → Nat → Int32} (h1 : stay cs A B) (h2 : 2 ∉ cs) : stay2 A B := fun j _ => by rw [h1 2 h2]
section PZ
variable {np nl nc : Nat} {len tim : Nat → Int32} {h : Nat → Nat} {z : Nat → Nat → Nat} {M M' : Nat → Nat → Int32}
theorem yC.stays (y : yC np nl nc len tim h z M) (e : ∀ c, c = 1 ∨ c = 4 ∨ c = 5 ∨ c = 7 ∨ c = 8 ∨ c = 9 ∨ c = 10 → M' c = M c) : yC np nl nc len tim h z M' := by
  unfold yC
  rw [e 1 (by simp), e 4 (by simp), e 5 (by simp), e 7 (by simp), e 8 (by simp), e 9 (by simp), e 10 (by simp)]
  exact y
theorem mvC.stays {mv : List (Nat × Nat × Option Nat)} (y : mvC mv M) (e : ∀ c, c = 2 ∨ c = 11 ∨ c = 12 ∨ c = 13 → M' c = M c) : mvC mv M' := by
  unfold mvC
  rw [e 2 (by simp), e 11 (by simp), e 12 (by simp), e 13 (by simp)]
  exact y
theorem ev_note {mv : List (Nat × Nat × Option Nat)} (y : mvC mv M) (hl : mv.length < 22) (p a : Nat) (b : Option Nat) : ∃ M', f_S_note (nI p) (nI a) (oI b) M = some (0, M') ∧ mvC (mv ++ [(p, a, b)]) M' ∧ stay [2, 11, 12, 13] M M' ∧ stay2 M M' := by
  unfold f_S_note
  obtain ⟨y1, y2⟩ := y
  have n1 : ∀ f, kb_up M 11 f 2 6 = nI mv.length := fun f => by rw [pr_upN (by decide)]; exact y1
  rw [y1, if_neg (show ¬ (22 : Int32) ≤ nI mv.length from nI_ge (b := 22) hl (by decide)), pr_wr rfl hl (by omega)]
  rw [pr_wr (m := mv.length) (by rw [pr_upN (by decide)]; exact y1) hl (by omega)]
  rw [pr_wr (m := mv.length) (by rw [pr_upN (by decide), pr_upN (by decide)]; exact y1) hl (by omega), pr_st]
  refine ⟨_, rfl, ⟨?_, ?_⟩, ?_, ?_⟩
  · rw [pr_upS, pr_uS, pr_upN (by decide), pr_upN (by decide), pr_upN (by decide), y1, List.length_append]
    exact nI_1 _
  · intro j q hq
    rw [pr_upN (by decide), pr_upN (by decide), pr_upN (by decide), pr_upS, pr_upN (by decide), pr_upN (by decide), pr_upS, pr_upN (by decide), pr_upN (by decide), pr_upS, pr_upN (by decide), pr_upN (by decide)]
    rcases Nat.lt_or_ge j mv.length with r | r
    · rw [List.getElem?_append_left r] at hq
      rw [pr_uN (by omega), pr_uN (by omega), pr_uN (by omega)]
      exact y2 j q hq
    · rw [List.getElem?_append_right r] at hq
      have e : j - mv.length = 0 := by
        rcases Nat.eq_zero_or_pos (j - mv.length) with s | s
        · exact s
        · rw [List.getElem?_eq_none (by simp; omega)] at hq; cases hq
      rw [e] at hq
      cases hq
      obtain rfl : j = mv.length := by omega
      rw [pr_uS, pr_uS, pr_uS]
      exact ⟨rfl, rfl, rfl⟩
  · intro c hc
    simp only [List.mem_cons, List.not_mem_nil, or_false, not_or] at hc
    rw [pr_upN hc.1, pr_upN hc.2.2.2, pr_upN hc.2.2.1, pr_upN hc.2.1]
  · intro j hj
    rw [pr_upS, pr_uN hj, pr_upN (by decide), pr_upN (by decide), pr_upN (by decide)]
/-- a move, done backwards -/
theorem mvA_wf {s : (Nat → Nat) × (Nat → Nat → Nat)} {q : Nat × Nat × Option Nat} (w : yWF np nl nc tim s.1 s.2) (ok : mvOk np nl s q) : yWF np nl nc tim (mvA s q).1 (mvA s q).2 := by
  obtain ⟨p, a, b⟩ := q
  obtain ⟨h0, hp, hb⟩ := ok
  cases b with
  | none => exact w.pop a
  | some b =>
    obtain ⟨b1, b2, b3⟩ := hb b rfl
    have w1 := w.pop a
    have e : hU s.1 a (s.1 a - 1) b = s.1 b := hU_n b2
    have hp2 : s.2 a (s.1 a - 1) = p := hp
    have g := gone_pop w h0
    have h1 := w1.push (k := b) (p := p) b1 (by rw [e]; exact b3) (by rw [← hp2]; exact w.2.2.2.2.2.2.1 a _ (by have : 0 < s.1 a := h0; omega)) (by rw [← hp2]; exact g)
    rw [e] at h1
    exact h1
theorem mvR_wf : ∀ (l : List (Nat × Nat × Option Nat)) {s : (Nat → Nat) × (Nat → Nat → Nat)}, yWF np nl nc tim s.1 s.2 → mvV np nl s l → yWF np nl nc tim (mvR s l).1 (mvR s l).2 := by
  intro l
  induction l with
  | nil => intro s w _; exact w
  | cons q l ih => intro s w v; exact ih (mvA_wf w v.1) v.2
theorem ev_back1 {s : (Nat → Nat) × (Nat → Nat → Nat)} {p a : Nat} {b : Option Nat} (w : yWF np nl nc tim s.1 s.2) (ok : mvOk np nl s (p, a, b)) (y : yC np nl nc len tim (mvA s (p, a, b)).1 (mvA s (p, a, b)).2 M) :
    (b = none → ∃ M', f_Y_layOn (nI p) (nI a) M = some (0, M') ∧ yC np nl nc len tim s.1 s.2 M' ∧ stay [4, 5, 9, 10] M M') ∧ (∀ b', b = some b' → ∃ M1 M', f_Y_takeOff (nI p) M = some (0, M1) ∧ f_Y_layOn (nI p) (nI a) M1 = some (0, M') ∧ yC np nl nc len tim s.1 s.2 M' ∧ stay [4, 5, 9, 10] M M' ∧ stay [4, 9, 10] M M1) := by
  obtain ⟨h0, hp, hb⟩ := id ok
  have h0 : 0 < s.1 a := h0
  have hp : s.2 a (s.1 a - 1) = p := hp
  have ha := w.lt4 h0
  have hpn : p < nc := by rw [← hp]; exact w.2.2.2.2.2.2.1 a _ (by omega)
  have hle := w.2.2.2.2.1 a
  have g := gone_pop w h0
  rw [hp] at g
  have fin : ∀ {Mx : Nat → Nat → Int32} {zz : Nat → Nat → Nat}, (∀ j i, i < hU s.1 a (s.1 a - 1) j → zz j i = s.2 j i) → yC np nl nc len tim (hU s.1 a (s.1 a - 1)) zz Mx → ∃ M', f_Y_layOn (nI p) (nI a) Mx = some (0, M') ∧ yC np nl nc len tim s.1 s.2 M' ∧ stay [4, 5, 9, 10] Mx M' := by
    intro Mx zz hzz yx
    have yx2 := yx.congr hzz
    obtain ⟨M', f1, y1, st⟩ := ev_layOn yx2 (w.pop a) (k := a) (p := p) ha (by rw [hU_s]; omega) hpn g
    refine ⟨M', f1, ?_, st⟩
    have eh : hU (hU s.1 a (s.1 a - 1)) a (hU s.1 a (s.1 a - 1) a + 1) = s.1 := by
      funext j
      by_cases q : j = a
      · subst q; rw [hU_s, hU_s]; omega
      · rw [hU_n q, hU_n q]
    rw [eh] at y1
    refine y1.congr (fun j i hi => ?_)
    by_cases q : j = a ∧ i = hU s.1 a (s.1 a - 1) a
    · rw [q.1, q.2, zU_s, hU_s]; exact hp.symm
    · exact zU_n q
  constructor
  · intro e
    subst e
    exact fin (fun _ _ _ => rfl) y
  · intro b' e
    subst e
    obtain ⟨b1, b2, b3⟩ := hb b' rfl
    have b2 : b' ≠ a := b2
    have wA := mvA_wf w ok
    have e1 : (mvA s (p, a, some b')).1 b' = s.1 b' + 1 := by
      show hU (hU s.1 a (s.1 a - 1)) b' (s.1 b' + 1) b' = _
      exact hU_s
    have e2 : (mvA s (p, a, some b')).2 b' ((mvA s (p, a, some b')).1 b' - 1) = p := by
      rw [e1]
      show zU s.2 b' (s.1 b') p b' (s.1 b' + 1 - 1) = p
      exact zU_s
    obtain ⟨M1, f1, y1, st1⟩ := ev_takeOff y wA (k := b') (by rw [e1]; omega)
    rw [e2] at f1
    have eh : hU (mvA s (p, a, some b')).1 b' ((mvA s (p, a, some b')).1 b' - 1) = hU s.1 a (s.1 a - 1) := by
      rw [e1]
      funext j
      show hU (hU (hU s.1 a (s.1 a - 1)) b' (s.1 b' + 1)) b' (s.1 b' + 1 - 1) j = _
      by_cases q : j = b'
      · subst q; rw [hU_s, hU_n b2]; omega
      · rw [hU_n q, hU_n q]
    rw [eh] at y1
    obtain ⟨M', f2, y2, st2⟩ := fin (zz := (mvA s (p, a, some b')).2) (fun j i hi => by
      show zU s.2 b' (s.1 b') p j i = s.2 j i
      refine zU_n (fun q => ?_)
      rw [q.1, q.2, hU_n b2] at hi
      exact Nat.lt_irrefl _ hi) y1
    exact ⟨M1, M', f1, f2, y2, (st1.mono (fun c hc => by simp at hc ⊢; omega)).trans st2, st1⟩
theorem ev_takeBack {s0 : (Nat → Nat) × (Nat → Nat → Nat)} {mv0 : List (Nat × Nat × Option Nat)} (w : yWF np nl nc tim s0.1 s0.2) : ∀ (n : Nat) (l : List (Nat × Nat × Option Nat)), l.length = n → ∀ (f : Nat) (M : Nat → Nat → Int32), n < f → (mv0 ++ l).length ≤ 22 → mvV np nl s0 l → yC np nl nc len tim (mvR s0 l).1 (mvR s0 l).2 M → mvC (mv0 ++ l) M →
    ∃ M', h_S_takeBack_0 f (nI mv0.length) M = some (0, M') ∧ yC np nl nc len tim s0.1 s0.2 M' ∧ M' 2 6 = nI mv0.length ∧ stay [2, 4, 5, 9, 10] M M' ∧ stay2 M M' := by
  intro n
  induction n with
  | zero =>
    intro l hln f M hf hlen v y c
    obtain ⟨f, rfl⟩ : ∃ g, f = g + 1 := ⟨f - 1, by omega⟩
    obtain rfl : l = [] := List.length_eq_zero_iff.mp hln
    rw [List.append_nil] at c hlen
    rw [h_S_takeBack_0, c.1, if_pos (nI_le (Nat.le_refl _) (by omega))]
    exact ⟨M, rfl, y, c.1, fun _ _ => rfl, fun _ _ => rfl⟩
  | succ n ih =>
    intro l hln f M hf hlen v y c
    obtain ⟨f, rfl⟩ : ∃ g, f = g + 1 := ⟨f - 1, by omega⟩
    obtain ⟨l1, q, rfl⟩ : ∃ l1 q, l = l1 ++ [q] := ⟨l.dropLast, l.getLast (by intro e; rw [e] at hln; cases hln), (List.dropLast_concat_getLast _).symm⟩
    obtain ⟨p, a, b⟩ := q
    rw [List.length_append] at hln
    have hln1 : l1.length = n := by simpa using hln
    rw [mvV_app] at v
    obtain ⟨v1, v2, -⟩ := v
    rw [mvR_app] at y
    have hlen2 : (mv0 ++ (l1 ++ [(p, a, b)])).length = (mv0 ++ l1).length + 1 := by simp; omega
    have wl := mvR_wf l1 w v1
    have hat : (mv0 ++ (l1 ++ [(p, a, b)]))[(mv0 ++ l1).length]? = some (p, a, b) := by
      rw [← List.append_assoc, List.getElem?_append_right (Nat.le_refl _), Nat.sub_self]; rfl
    obtain ⟨c1, c2, c3⟩ := c.2 _ _ hat
    have c3 : M 13 (mv0 ++ l1).length = oI b := c3
    have hm : mv0.length < (mv0 ++ (l1 ++ [(p, a, b)])).length := by simp
    have e6 : M 2 6 - (1 : Int32) = nI (mv0 ++ l1).length := by
      rw [c.1, hlen2, show (1 : Int32) = nI 1 from rfl, pk_sub (by omega)]; rfl
    rw [h_S_takeBack_0, c.1, if_neg (nI_ge hm (by omega)), pr_st]
    obtain ⟨M1, eM1⟩ : ∃ M1, M1 = kb_up M 2 (upd (M 2) 6 (nI (mv0 ++ (l1 ++ [(p, a, b)])).length - 1)) := ⟨_, rfl⟩
    rw [← eM1]
    have m26 : M1 2 6 = nI (mv0 ++ l1).length := by rw [eM1, pr_upS, pr_uS, ← c.1]; exact e6
    have ms : ∀ c, c ≠ 2 → M1 c = M c := fun c hc => by rw [eM1, pr_upN hc]
    have m2 : stay2 M M1 := fun j hj => by rw [eM1, pr_upS, pr_uN hj]
    have yM1 : yC np nl nc len tim (mvA (mvR s0 l1) (p, a, b)).1 (mvA (mvR s0 l1) (p, a, b)).2 M1 := yC.stays y (fun c hc => ms c (by omega))
    rw [pr_rd m26 (by omega) (by omega), ms 13 (by decide), c3]
    obtain ⟨k1, k2⟩ := ev_back1 wl v2 yM1
    -- the rest of the round
    have rest : ∀ (M2 M3 : Nat → Nat → Int32), M2 2 6 = nI (mv0 ++ l1).length → stay [4, 9, 10] M1 M2 → f_Y_layOn (nI p) (nI a) M2 = some (0, M3) → yC np nl nc len tim (mvR s0 l1).1 (mvR s0 l1).2 M3 → stay [4, 5, 9, 10] M1 M3 →
        ∃ M', h_S_takeBack_44 (fun y0 N => h_S_takeBack_0 f y0 N) (nI mv0.length) M2 = some (0, M') ∧ yC np nl nc len tim s0.1 s0.2 M' ∧ M' 2 6 = nI mv0.length ∧ stay [2, 4, 5, 9, 10] M M' ∧ stay2 M M' := by
      intro M2 M3 h26 st2 f3 y3 st3
      unfold h_S_takeBack_44
      rw [pr_rd h26 (by omega) (by omega), pr_rd h26 (by omega) (by omega), st2 11 (by decide), st2 12 (by decide), ms 11 (by decide), ms 12 (by decide), c1, c2, pr_cc f3]
      have c3' : mvC (mv0 ++ l1) M3 := by
        refine ⟨by rw [st3 2 (by decide)]; exact m26, fun j q hq => ?_⟩
        rw [st3 11 (by decide), st3 12 (by decide), st3 13 (by decide), ms 11 (by decide), ms 12 (by decide), ms 13 (by decide)]
        refine c.2 j q ?_
        rw [← List.append_assoc, List.getElem?_append_left]
        · exact hq
        · rcases Nat.lt_or_ge j (mv0 ++ l1).length with r | r
          · exact r
          · rw [List.getElem?_eq_none r] at hq; cases hq
      obtain ⟨M', r1, r2, r3, r4, r5⟩ := ih l1 hln1 f M3 (by omega) (by omega) v1 y3 c3'
      refine ⟨M', r1, r2, r3, ?_, ?_⟩
      · intro c hc
        have hc' : c ∉ [4, 5, 9, 10] := fun q => hc (by simp at q ⊢; omega)
        have hc2 : c ≠ 2 := fun q => hc (by simp [q])
        rw [r4 c hc, st3 c hc', ms c hc2]
      · exact (m2.trans (st3.two (by decide))).trans r5
    cases b with
    | none =>
      rw [if_pos (show oI none = -1 from rfl)]
      obtain ⟨M3, f3, y3, st3⟩ := k1 rfl
      exact rest M1 M3 m26 (fun _ _ => rfl) f3 y3 st3
    | some b' =>
      have hb4 : b' < 4 := Nat.lt_of_lt_of_le (v2.2.2 b' rfl).1 w.2.1
      rw [if_neg (show ¬ oI (some b') = -1 from pr_m1 (by omega)), pr_rd m26 (by omega) (by omega), ms 11 (by decide), c1]
      obtain ⟨M2, M3, f2, f3, y3, st3, st2⟩ := k2 b' rfl
      rw [pr_cc f2]
      exact rest M2 M3 (by rw [st2 2 (by decide)]; exact m26) st2 f3 y3 st3
end PZ
