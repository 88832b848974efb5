/-! THE PURE PART 1: numbers, and what a yard is -/
theorem pr_cl {m : Nat} (h : m < 2 ^ 31) : (nI m).toNatClampNeg = m := nI_clamp h
theorem pr_rd {α : Type} {f : Nat → Int32} {n m : Nat} {j : Int32} {k : Int32 → Option α} (h : j = nI m) (hm : m < n) (hn : n < 1000) : kb_rd f n j k = k (f m) := by
  subst h
  unfold kb_rd
  rw [if_neg (nI_in hm (by omega)), nI_clamp (by omega)]
theorem pr_wr {α : Type} {M : Nat → Nat → Int32} {c n m : Nat} {j x : Int32} {k : (Nat → Nat → Int32) → Option α} (h : j = nI m) (hm : m < n) (hn : n < 1000) : kb_wr M c n j x k = k (kb_up M c (upd (M c) m x)) := by
  subst h
  unfold kb_wr
  rw [if_neg (nI_in hm (by omega)), nI_clamp (by omega)]
theorem pr_st {α β : Type} (x : β) (k : β → Option α) : kb_st x k = k x := rfl
theorem pr_cc {α : Type} {r : Int32} {M : Nat → Nat → Int32} {k : Int32 → (Nat → Nat → Int32) → Option α} {x : Option (Int32 × (Nat → Nat → Int32))} (h : x = some (r, M)) : kb_cl x k = k r M := by subst h; rfl
theorem pr_upS {M : Nat → Nat → Int32} {c : Nat} {f : Nat → Int32} : kb_up M c f c = f := by unfold kb_up; exact if_pos rfl
theorem pr_upN {M : Nat → Nat → Int32} {c d : Nat} {f : Nat → Int32} (h : d ≠ c) : kb_up M c f d = M d := by unfold kb_up; exact if_neg h
theorem pr_uS {f : Nat → Int32} {k : Nat} {x : Int32} : upd f k x k = x := pk_us
theorem pr_uN {f : Nat → Int32} {k j : Nat} {x : Int32} (h : j ≠ k) : upd f k x j = f j := pk_un h
theorem pr_nI {a b : Nat} (ha : a < 2 ^ 31) (hb : b < 2 ^ 31) : nI a = nI b ↔ a = b := nI_eq ha hb
theorem pr_m1 {a : Nat} (h : a < 2 ^ 31) : ¬ nI a = (-1 : Int32) := by
  intro e
  have h1 := nI_toInt h
  rw [e] at h1
  have h2 : (-1 : Int32).toInt = -1 := by decide
  omega
theorem pr_0 {a : Nat} (h : a < 2 ^ 31) : nI a = (0 : Int32) ↔ a = 0 := by
  have : (0 : Int32) = nI 0 := rfl
  rw [this, nI_eq h (by omega)]
/-- fuel -/
theorem pr_F (n : Nat) (h : n ≤ 1000000) : ∃ m, kb_F = m + n := ⟨kb_F - n, by unfold kb_F; omega⟩
/-- a number within bounds -/
theorem pr_isWithin (x a b : Int32) (M : Nat → Nat → Int32) : f_P_isWithin x a b M = some ((if a ≤ x ∧ x ≤ b then 1 else 0), M) := by
  unfold f_P_isWithin
  by_cases h1 : x < a
  · have : ¬ (a ≤ x ∧ x ≤ b) := fun h => absurd h1 (Int32.not_lt.mpr h.1)
    simp [h1, this]
  · by_cases h2 : b < x
    · have : ¬ (a ≤ x ∧ x ≤ b) := fun h => absurd h2 (Int32.not_lt.mpr h.2)
      simp [h1, h2, this]
    · have : a ≤ x ∧ x ≤ b := ⟨Int32.not_lt.mp h1, Int32.not_lt.mp h2⟩
      simp [h1, h2, this]
theorem pr_in (x a b : Int32) (M : Nat → Nat → Int32) : f_M_in x a b M = some ((if a ≤ x ∧ x ≤ b then 1 else 0), M) := by
  unfold f_M_in
  by_cases h1 : x < a
  · have : ¬ (a ≤ x ∧ x ≤ b) := fun h => absurd h1 (Int32.not_lt.mpr h.1)
    simp [h1, this]
  · by_cases h2 : b < x
    · have : ¬ (a ≤ x ∧ x ≤ b) := fun h => absurd h2 (Int32.not_lt.mpr h.2)
      simp [h1, h2, this]
    · have : a ≤ x ∧ x ≤ b := ⟨Int32.not_lt.mp h1, Int32.not_lt.mp h2⟩
      simp [h1, h2, this]
/-- what lies where: pile k holds h k pieces, z k i from below -/
def gone (h : Nat → Nat) (z : Nat → Nat → Nat) (p : Nat) : Prop := ∀ k i, i < h k → z k i ≠ p
def yWF (np nl nc : Nat) (tim : Nat → Int32) (h : Nat → Nat) (z : Nat → Nat → Nat) : Prop :=
  1 ≤ np ∧ np ≤ 4 ∧ nl ≤ 5 ∧ nc ≤ 10 ∧ (∀ k, h k ≤ nl) ∧ (∀ k, np ≤ k → h k = 0) ∧ (∀ k i, i < h k → z k i < nc) ∧ (∀ k i k' i', i < h k → i' < h k' → z k i = z k' i' → k = k' ∧ i = i') ∧ (∀ p, p < nc → tim p = -1 ∨ ∃ t, t < 100 ∧ tim p = nI t)
/-- the class's memory holds it -/
def yC (np nl nc : Nat) (len tim : Nat → Int32) (h : Nat → Nat) (z : Nat → Nat → Nat) (M : Nat → Nat → Int32) : Prop :=
  M 1 0 = nI np ∧ M 1 1 = nI nl ∧ M 1 2 = nI nc ∧ (∀ k, k < 4 → M 4 k = nI (h k)) ∧ (∀ k i, k < 4 → i < h k → M 5 (5 * k + i) = nI (z k i)) ∧ (∀ p, p < nc → M 7 p = len p) ∧ (∀ p, p < nc → M 8 p = tim p) ∧ (∀ k i, i < h k → M 9 (z k i) = nI k ∧ M 10 (z k i) = nI i) ∧ (∀ p, p < nc → gone h z p → M 9 p = -1 ∧ M 10 p = -1)
def bI (b : Bool) : Int32 := if b = true then 1 else 0
theorem bI_0 {b : Bool} : bI b = 0 ↔ b = false := by cases b <;> decide
theorem bI_bz {α : Type} (b : Bool) (k : Option α) : kb_bz (bI b) k = k := by
  unfold kb_bz
  exact if_pos (by cases b; exact Or.inl rfl; exact Or.inr rfl)
/-- a piece's turn: by time, then by number -/
def tu (tim : Nat → Int32) (p : Nat) : Nat := if tim p = -1 then 1000 else (tim p).toNatClampNeg * 10 + p
/-- one of the c pieces from place i on leaves ahead of turn t -/
def wb (tim : Nat → Int32) (zk : Nat → Nat) (t : Nat) : Nat → Nat → Bool
  | _, 0 => false
  | i, c + 1 => decide (tu tim (zk i) < t) || wb tim zk t (i + 1) c
section PU
variable {np nl nc : Nat} {len tim : Nat → Int32} {h : Nat → Nat} {z : Nat → Nat → Nat} {M : Nat → Nat → Int32}
theorem yWF.lt4 (w : yWF np nl nc tim h z) {k i : Nat} (hi : i < h k) : k < np := by
  obtain ⟨_, _, _, _, _, h6, _⟩ := w
  rcases Nat.lt_or_ge k np with q | q
  · exact q
  · rw [h6 k q] at hi; omega
theorem ev_pieceAt (y : yC np nl nc len tim h z M) (w : yWF np nl nc tim h z) {k i : Nat} (hk : k < 4) (hi : i < h k) : f_Y_pieceAt (nI k) (nI i) M = some (nI (z k i), M) := by
  unfold f_Y_pieceAt
  have hl := w.2.2.2.2.1 k
  have hn := w.2.2.1
  have e : nI k * (5 : Int32) + nI i = nI (5 * k + i) := by
    rw [show (5 : Int32) = nI 5 from rfl, pk_mul, nI_add, Nat.mul_comm]
  rw [pr_rd e (by omega) (by omega), y.2.2.2.2.1 k i hk hi]
theorem ev_topOf (y : yC np nl nc len tim h z M) (w : yWF np nl nc tim h z) {k : Nat} (hk : k < 4) : f_Y_topOf (nI k) M = some (if h k = 0 then -1 else nI (z k (h k - 1)), M) := by
  unfold f_Y_topOf
  have hl := w.2.2.2.2.1 k
  have hn := w.2.2.1
  rw [pr_rd rfl hk (by omega), y.2.2.2.1 k hk]
  by_cases h0 : h k = 0
  · rw [if_pos ((pr_0 (by omega)).mpr h0), if_pos h0]
  · rw [if_neg (fun q => h0 ((pr_0 (by omega)).mp q)), if_neg h0, pr_rd rfl hk (by omega), y.2.2.2.1 k hk]
    have e : nI (h k) - (1 : Int32) = nI (h k - 1) := by rw [show (1 : Int32) = nI 1 from rfl, pk_sub (by omega)]
    rw [e, pr_cc (ev_pieceAt y w hk (by omega))]
theorem ev_turnOf (y : yC np nl nc len tim h z M) (w : yWF np nl nc tim h z) {p : Nat} (hp : p < nc) : f_Y_turnOf (nI p) M = some (nI (tu tim p), M) ∧ tu tim p ≤ 1000 := by
  unfold f_Y_turnOf tu
  have hn := w.2.2.2.1
  rw [pr_rd rfl (by omega) (by omega), y.2.2.2.2.2.2.1 p hp]
  rcases w.2.2.2.2.2.2.2.2 p hp with q | ⟨t, ht, q⟩
  · rw [if_pos q, if_pos q]; exact ⟨rfl, by omega⟩
  · have hne : ¬ tim p = -1 := by rw [q]; exact pr_m1 (by omega)
    rw [if_neg hne, if_neg hne, pr_rd rfl (by omega) (by omega), y.2.2.2.2.2.2.1 p hp, q, nI_clamp (by omega)]
    rw [show (10 : Int32) = nI 10 from rfl, pk_mul, nI_add]
    exact ⟨rfl, by omega⟩
theorem ev_wbl (y : yC np nl nc len tim h z M) (w : yWF np nl nc tim h z) {k t : Nat} (hk : k < 4) (ht : t ≤ 1000) : ∀ (c f i : Nat), c < f → i + c ≤ h k → h_Y_wouldBlock_10 f (nI k) (nI (i + c)) (nI t) (nI i) M = some (bI (wb tim (z k) t i c), M) := by
  have hl := w.2.2.2.2.1 k
  have hn := w.2.2.1
  intro c
  induction c with
  | zero =>
    intro f i hf hi
    obtain ⟨f, rfl⟩ : ∃ g, f = g + 1 := ⟨f - 1, by omega⟩
    rw [h_Y_wouldBlock_10, if_pos (nI_le (by omega) (by omega))]
    rfl
  | succ c ih =>
    intro f i hf hi
    obtain ⟨f, rfl⟩ : ∃ g, f = g + 1 := ⟨f - 1, by omega⟩
    have hz := w.2.2.2.2.2.2.1 k i (by omega)
    rw [h_Y_wouldBlock_10, if_neg (nI_ge (by omega) (by omega)), pr_cc (ev_pieceAt y w hk (by omega)), pr_cc (ev_turnOf y w hz).1]
    have htz := (ev_turnOf y w hz).2
    unfold wb
    by_cases hlt : tu tim (z k i) < t
    · rw [if_neg (nI_ge hlt (by omega)), decide_eq_true hlt]
      rfl
    · rw [if_pos (nI_le (by omega) (by omega)), decide_eq_false hlt, Bool.false_or]
      have e : nI i + 1 = nI (i + 1) := nI_1 i
      rw [e, show i + (c + 1) = i + 1 + c by omega]
      exact ih f (i + 1) (by omega) (by omega)
theorem ev_wouldBlock (y : yC np nl nc len tim h z M) (w : yWF np nl nc tim h z) {p k n : Nat} (hp : p < nc) (hk : k < 4) (hn : n ≤ h k) : f_Y_wouldBlock (nI p) (nI k) (nI n) M = some (bI (wb tim (z k) (tu tim p) 0 n), M) := by
  unfold f_Y_wouldBlock
  have hl := w.2.2.2.2.1 k
  have hq := w.2.2.1
  rw [pr_cc (ev_turnOf y w hp).1]
  have h1 := ev_wbl y w hk (ev_turnOf y w hp).2 n kb_F 0 (by unfold kb_F; omega) (by omega)
  rw [Nat.zero_add] at h1
  exact h1
end PU
