/-! THE PURE PART 4: a top piece is taken off, a piece is laid on: the yard, and the class's memory -/
def hU (h : Nat → Nat) (k v : Nat) : Nat → Nat := fun j => if j = k then v else h j
def zU (z : Nat → Nat → Nat) (k i p : Nat) : Nat → Nat → Nat := fun a b => if a = k ∧ b = i then p else z a b
theorem hU_s {h : Nat → Nat} {k v : Nat} : hU h k v k = v := if_pos rfl
theorem hU_n {h : Nat → Nat} {k v j : Nat} (e : j ≠ k) : hU h k v j = h j := if_neg e
theorem zU_s {z : Nat → Nat → Nat} {k i p : Nat} : zU z k i p k i = p := if_pos ⟨rfl, rfl⟩
theorem zU_n {z : Nat → Nat → Nat} {k i p a b : Nat} (e : ¬ (a = k ∧ b = i)) : zU z k i p a b = z a b := if_neg e
section PX
variable {np nl nc : Nat} {len tim : Nat → Int32} {h : Nat → Nat} {z z' : Nat → Nat → Nat} {M : Nat → Nat → Int32}
theorem yWF.pop (w : yWF np nl nc tim h z) (k : Nat) : yWF np nl nc tim (hU h k (h k - 1)) z := by
  obtain ⟨a1, a2, a3, a4, a5, a6, a7, a8, a9⟩ := w
  have hle : ∀ j, hU h k (h k - 1) j ≤ h j := by
    intro j
    by_cases e : j = k
    · subst e; rw [hU_s]; omega
    · rw [hU_n e]; exact Nat.le_refl _
  exact ⟨a1, a2, a3, a4, fun j => Nat.le_trans (hle j) (a5 j), fun j hj => by have := hle j; rw [a6 j hj] at this; omega, fun j i hi => a7 j i (Nat.lt_of_lt_of_le hi (hle j)), fun j i j' i' hi hi' e => a8 j i j' i' (Nat.lt_of_lt_of_le hi (hle j)) (Nat.lt_of_lt_of_le hi' (hle j')) e, a9⟩
theorem yWF.push (w : yWF np nl nc tim h z) {k p : Nat} (hk : k < np) (hl : h k < nl) (hp : p < nc) (hg : gone h z p) : yWF np nl nc tim (hU h k (h k + 1)) (zU z k (h k) p) := by
  obtain ⟨a1, a2, a3, a4, a5, a6, a7, a8, a9⟩ := w
  have key : ∀ j i, i < hU h k (h k + 1) j → (j = k ∧ i = h k) ∨ (i < h j ∧ ¬ (j = k ∧ i = h k)) := by
    intro j i hi
    by_cases e : j = k
    · subst e
      rw [hU_s] at hi
      rcases Nat.lt_or_ge i (h j) with q | q
      · exact Or.inr ⟨q, fun r => by omega⟩
      · exact Or.inl ⟨rfl, by omega⟩
    · rw [hU_n e] at hi
      exact Or.inr ⟨hi, fun r => e r.1⟩
  refine ⟨a1, a2, a3, a4, fun j => ?_, fun j hj => ?_, fun j i hi => ?_, fun j i j' i' hi hi' e => ?_, a9⟩
  · by_cases e : j = k
    · subst e; rw [hU_s]; omega
    · rw [hU_n e]; exact a5 j
  · rw [hU_n (by omega)]; exact a6 j hj
  · rcases key j i hi with ⟨rfl, rfl⟩ | ⟨q, r⟩
    · rw [zU_s]; exact hp
    · rw [zU_n r]; exact a7 j i q
  · rcases key j i hi with ⟨rfl, rfl⟩ | ⟨q, r⟩
    · rcases key j' i' hi' with ⟨rfl, rfl⟩ | ⟨q', r'⟩
      · exact ⟨rfl, rfl⟩
      · rw [zU_s, zU_n r'] at e; exact absurd e.symm (hg j' i' q')
    · rcases key j' i' hi' with ⟨rfl, rfl⟩ | ⟨q', r'⟩
      · rw [zU_s, zU_n r] at e; exact absurd e (hg j i q)
      · rw [zU_n r, zU_n r'] at e; exact a8 j i j' i' q q' e
theorem yWF.congr (w : yWF np nl nc tim h z) (e : ∀ k i, i < h k → z k i = z' k i) : yWF np nl nc tim h z' := by
  obtain ⟨a1, a2, a3, a4, a5, a6, a7, a8, a9⟩ := w
  exact ⟨a1, a2, a3, a4, a5, a6, fun k i hi => by rw [← e k i hi]; exact a7 k i hi, fun k i k' i' hi hi' q => a8 k i k' i' hi hi' (by rw [e k i hi, e k' i' hi']; exact q), a9⟩
theorem gone.congr {p : Nat} (g : gone h z p) (e : ∀ k i, i < h k → z k i = z' k i) : gone h z' p := fun k i hi => by rw [← e k i hi]; exact g k i hi
theorem yC.congr (y : yC np nl nc len tim h z M) (e : ∀ k i, i < h k → z k i = z' k i) : yC np nl nc len tim h z' M := by
  obtain ⟨a1, a2, a3, a4, a5, a6, a7, a8, a9⟩ := y
  exact ⟨a1, a2, a3, a4, fun k i hk hi => by rw [← e k i hi]; exact a5 k i hk hi, a6, a7, fun k i hi => by rw [← e k i hi]; exact a8 k i hi, fun p hp g => a9 p hp (g.congr (fun k i hi => (e k i hi).symm))⟩
theorem gone_pop (w : yWF np nl nc tim h z) {k : Nat} (hk : 0 < h k) : gone (hU h k (h k - 1)) z (z k (h k - 1)) := by
  intro j i hi e
  by_cases q : j = k
  · subst q
    rw [hU_s] at hi
    have := (w.2.2.2.2.2.2.2.1 j i j (h j - 1) (by omega) (by omega) e).2
    omega
  · rw [hU_n q] at hi
    exact q (w.2.2.2.2.2.2.2.1 j i k (h k - 1) hi (by omega) e).1
theorem gone_of_pop (w : yWF np nl nc tim h z) {k p : Nat} (g : gone (hU h k (h k - 1)) z p) (hp : p ≠ z k (h k - 1)) : gone h z p := by
  intro j i hi e
  by_cases q : j = k
  · subst q
    rcases Nat.lt_or_ge i (h j - 1) with r | r
    · exact g j i (by rw [hU_s]; exact r) e
    · exact hp (by rw [← e, show i = h j - 1 by omega])
  · exact g j i (by rw [hU_n q]; exact hi) e
/-- the cells that stay -/
def stay (cs : List Nat) (M M' : Nat → Nat → Int32) : Prop := ∀ c, c ∉ cs → M' c = M c
theorem ev_takeOff (y : yC np nl nc len tim h z M) (w : yWF np nl nc tim h z) {k : Nat} (hk : 0 < h k) : ∃ M', f_Y_takeOff (nI (z k (h k - 1))) M = some (0, M') ∧ yC np nl nc len tim (hU h k (h k - 1)) z M' ∧ stay [4, 9, 10] M M' := by
  have hk4 : k < 4 := Nat.lt_of_lt_of_le (w.lt4 hk) w.2.1
  have hp := w.2.2.2.2.2.2.1 k (h k - 1) (by omega)
  have hc := w.2.2.2.1
  have hl := w.2.2.2.2.1 k
  have hn := w.2.2.1
  have inj := w.2.2.2.2.2.2.2.1
  have hz := w.2.2.2.2.2.2.1
  obtain ⟨a1, a2, a3, a4, a5, a6, a7, a8, a9⟩ := id y
  unfold f_Y_takeOff
  rw [pr_rd rfl (by omega) (by omega), (a8 k (h k - 1) (by omega)).1, if_neg (pr_m1 (by omega)), pr_rd rfl hk4 (by omega), a4 k hk4, pr_wr rfl hk4 (by omega), pr_wr rfl (by omega) (by omega), pr_wr rfl (by omega) (by omega)]
  refine ⟨_, rfl, ?_, ?_⟩
  · have e : nI (h k) - (1 : Int32) = nI (h k - 1) := by rw [show (1 : Int32) = nI 1 from rfl, pk_sub (by omega)]
    refine ⟨?_, ?_, ?_, ?_, ?_, ?_, ?_, ?_, ?_⟩
    · rw [pr_upN (by decide), pr_upN (by decide), pr_upN (by decide)]; exact a1
    · rw [pr_upN (by decide), pr_upN (by decide), pr_upN (by decide)]; exact a2
    · rw [pr_upN (by decide), pr_upN (by decide), pr_upN (by decide)]; exact a3
    · intro j hj
      rw [pr_upN (by decide), pr_upN (by decide), pr_upS]
      by_cases q : j = k
      · subst q; rw [pr_uS, hU_s, e]
      · rw [pr_uN q, hU_n q]; exact a4 j hj
    · intro j i hj hi
      rw [pr_upN (by decide), pr_upN (by decide), pr_upN (by decide)]
      exact a5 j i hj (Nat.lt_of_lt_of_le hi (by by_cases q : j = k; (subst q; rw [hU_s]; omega); (rw [hU_n q]; exact Nat.le_refl _)))
    · intro p hp
      rw [pr_upN (by decide), pr_upN (by decide), pr_upN (by decide)]; exact a6 p hp
    · intro p hp
      rw [pr_upN (by decide), pr_upN (by decide), pr_upN (by decide)]; exact a7 p hp
    · intro j i hi
      have hi2 : i < h j := Nat.lt_of_lt_of_le hi (by by_cases q : j = k; (subst q; rw [hU_s]; omega); (rw [hU_n q]; exact Nat.le_refl _))
      have hne : z j i ≠ z k (h k - 1) := gone_pop w hk j i hi
      rw [pr_upN (by decide), pr_upS, pr_uN hne, pr_upN (by decide), pr_upS, pr_uN hne, pr_upN (by decide), pr_upN (by decide)]
      exact a8 j i hi2
    · intro p hp2 g
      rw [pr_upN (by decide), pr_upS, pr_upS]
      by_cases q : p = z k (h k - 1)
      · subst q; rw [pr_uS, pr_uS]; exact ⟨rfl, rfl⟩
      · rw [pr_uN q, pr_uN q, pr_upN (by decide), pr_upN (by decide), pr_upN (by decide)]
        exact a9 p hp2 (gone_of_pop w g q)
  · intro c hcs
    simp only [List.mem_cons, List.not_mem_nil, or_false, not_or] at hcs
    rw [pr_upN hcs.2.2, pr_upN hcs.2.1, pr_upN hcs.1]
theorem ev_layOn (y : yC np nl nc len tim h z M) (w : yWF np nl nc tim h z) {k p : Nat} (hk : k < np) (hl : h k < nl) (hp : p < nc) (hg : gone h z p) : ∃ M', f_Y_layOn (nI p) (nI k) M = some (0, M') ∧ yC np nl nc len tim (hU h k (h k + 1)) (zU z k (h k) p) M' ∧ stay [4, 5, 9, 10] M M' := by
  have hk4 : k < 4 := Nat.lt_of_lt_of_le hk w.2.1
  have hc := w.2.2.2.1
  have hn := w.2.2.1
  have hl5 := w.2.2.2.2.1
  have hz := w.2.2.2.2.2.2.1
  obtain ⟨a1, a2, a3, a4, a5, a6, a7, a8, a9⟩ := id y
  have key : ∀ j i, i < hU h k (h k + 1) j → (j = k ∧ i = h k) ∨ (i < h j ∧ ¬ (j = k ∧ i = h k)) := by
    intro j i hi
    by_cases e : j = k
    · subst e
      rw [hU_s] at hi
      rcases Nat.lt_or_ge i (h j) with q | q
      · exact Or.inr ⟨q, fun r => by omega⟩
      · exact Or.inl ⟨rfl, by omega⟩
    · rw [hU_n e] at hi
      exact Or.inr ⟨hi, fun r => e r.1⟩
  unfold f_Y_layOn
  have e5 : nI k * (5 : Int32) + nI (h k) = nI (5 * k + h k) := by
    rw [show (5 : Int32) = nI 5 from rfl, pk_mul, nI_add, Nat.mul_comm]
  rw [pr_rd rfl hk4 (by omega), a4 k hk4, if_neg (show ¬ (5 : Int32) ≤ nI (h k) from nI_ge (b := 5) (show h k < 5 by omega) (by decide)), pr_wr e5 (by omega) (by omega), pr_wr rfl hk4 (by omega), pr_wr rfl (by omega) (by omega), pr_wr rfl (by omega) (by omega)]
  refine ⟨_, rfl, ?_, ?_⟩
  · have e : nI (h k) + (1 : Int32) = nI (h k + 1) := nI_1 _
    refine ⟨?_, ?_, ?_, ?_, ?_, ?_, ?_, ?_, ?_⟩
    · rw [pr_upN (by decide), pr_upN (by decide), pr_upN (by decide), pr_upN (by decide)]; exact a1
    · rw [pr_upN (by decide), pr_upN (by decide), pr_upN (by decide), pr_upN (by decide)]; exact a2
    · rw [pr_upN (by decide), pr_upN (by decide), pr_upN (by decide), pr_upN (by decide)]; exact a3
    · intro j hj
      rw [pr_upN (by decide), pr_upN (by decide), pr_upS]
      by_cases q : j = k
      · subst q; rw [pr_uS, hU_s, e]
      · rw [pr_uN q, hU_n q, pr_upN (by decide)]; exact a4 j hj
    · intro j i hj hi
      rw [pr_upN (by decide), pr_upN (by decide), pr_upN (by decide), pr_upS]
      rcases key j i hi with ⟨rfl, rfl⟩ | ⟨q, r⟩
      · rw [pr_uS, zU_s]
      · have := hl5 j
        rw [zU_n r, pr_uN (fun e => r (by omega))]; exact a5 j i hj q
    · intro p hp
      rw [pr_upN (by decide), pr_upN (by decide), pr_upN (by decide), pr_upN (by decide)]; exact a6 p hp
    · intro p hp
      rw [pr_upN (by decide), pr_upN (by decide), pr_upN (by decide), pr_upN (by decide)]; exact a7 p hp
    · intro j i hi
      rw [pr_upN (by decide), pr_upS, pr_upS]
      rcases key j i hi with ⟨rfl, rfl⟩ | ⟨q, r⟩
      · rw [zU_s, pr_uS, pr_uS]; exact ⟨rfl, rfl⟩
      · rw [zU_n r, pr_uN (hg j i q), pr_uN (hg j i q), pr_upN (by decide), pr_upN (by decide), pr_upN (by decide), pr_upN (by decide), pr_upN (by decide)]
        exact a8 j i q
    · intro q hq g
      have g1 : gone h z q := fun j i hi e2 => by
        by_cases r : j = k ∧ i = h k
        · exact absurd hi (by rw [r.1, r.2]; exact Nat.lt_irrefl _)
        · exact g j i (by
            by_cases s : j = k
            · subst s; rw [hU_s]; omega
            · rw [hU_n s]; exact hi) (by rw [zU_n r]; exact e2)
      have g2 : q ≠ p := fun e2 => g k (h k) (by rw [hU_s]; omega) (by rw [zU_s]; exact e2.symm)
      rw [pr_upN (by decide), pr_upS, pr_upS, pr_uN g2, pr_uN g2, pr_upN (by decide), pr_upN (by decide), pr_upN (by decide), pr_upN (by decide), pr_upN (by decide)]
      exact a9 q hq g1
  · intro c hcs
    simp only [List.mem_cons, List.not_mem_nil, or_false, not_or] at hcs
    rw [pr_upN hcs.2.2.2, pr_upN hcs.2.2.1, pr_upN hcs.1, pr_upN hcs.2.1]
end PX
