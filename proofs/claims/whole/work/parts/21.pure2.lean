/-! THE PURE PART 2: the class's reads -/
def lcB (h : Nat → Nat) (z : Nat → Nat → Nat) (p : Nat) : Bool := (List.range 4).any fun k => (List.range (h k)).any fun i => z k i == p
def bpB (tim : Nat → Int32) (h : Nat → Nat) (z : Nat → Nat → Nat) (p : Nat) : Bool := (List.range 4).any fun k => (List.range (h k)).any fun i => z k i == p && wb tim (z k) (tu tim p) 0 i
def bN (b : Bool) : Nat := if b = true then 1 else 0
def sumN (g : Nat → Nat) : Nat → Nat
  | 0 => 0
  | k + 1 => sumN g k + g k
section PV
variable {np nl nc : Nat} {len tim : Nat → Int32} {h : Nat → Nat} {z : Nat → Nat → Nat} {M : Nat → Nat → Int32}
theorem lcB_t (w : yWF np nl nc tim h z) {k i : Nat} (hi : i < h k) : lcB h z (z k i) = true := by
  have hk := w.lt4 hi
  have h4 := w.2.1
  unfold lcB
  rw [List.any_eq_true]
  refine ⟨k, List.mem_range.mpr (by omega), ?_⟩
  rw [List.any_eq_true]
  exact ⟨i, List.mem_range.mpr hi, by simp⟩
theorem lcB_e {p : Nat} (hl : lcB h z p = true) : ∃ k i, k < 4 ∧ i < h k ∧ z k i = p := by
  unfold lcB at hl
  rw [List.any_eq_true] at hl
  obtain ⟨k, hk, hl⟩ := hl
  rw [List.any_eq_true] at hl
  obtain ⟨i, hi, hl⟩ := hl
  exact ⟨k, i, List.mem_range.mp hk, List.mem_range.mp hi, by simpa using hl⟩
theorem lcB_f (w : yWF np nl nc tim h z) {p : Nat} (hl : lcB h z p = false) : gone h z p := by
  intro k i hi e
  rw [← e, lcB_t w hi] at hl
  cases hl
theorem lcB_g (w : yWF np nl nc tim h z) {p : Nat} (hg : gone h z p) : lcB h z p = false := by
  cases e : lcB h z p with
  | false => rfl
  | true =>
    obtain ⟨k, i, _, hi, ez⟩ := lcB_e e
    exact absurd ez (hg k i hi)
theorem bpB_t (w : yWF np nl nc tim h z) {k i : Nat} (hi : i < h k) : bpB tim h z (z k i) = wb tim (z k) (tu tim (z k i)) 0 i := by
  have hk := w.lt4 hi
  have h4 := w.2.1
  have inj := w.2.2.2.2.2.2.2.1
  cases e : wb tim (z k) (tu tim (z k i)) 0 i with
  | true =>
    unfold bpB
    rw [List.any_eq_true]
    refine ⟨k, List.mem_range.mpr (by omega), ?_⟩
    rw [List.any_eq_true]
    exact ⟨i, List.mem_range.mpr hi, by simp [e]⟩
  | false =>
    cases e2 : bpB tim h z (z k i) with
    | false => rfl
    | true =>
      unfold bpB at e2
      rw [List.any_eq_true] at e2
      obtain ⟨k', hk', e2⟩ := e2
      rw [List.any_eq_true] at e2
      obtain ⟨i', hi', e2⟩ := e2
      rw [Bool.and_eq_true] at e2
      obtain ⟨a, b⟩ := e2
      obtain ⟨rfl, rfl⟩ := inj k' i' k i (List.mem_range.mp hi') hi (by simpa using a)
      rw [e] at b; exact b.symm
theorem bpB_g {p : Nat} (hg : gone h z p) : bpB tim h z p = false := by
  cases e2 : bpB tim h z p with
  | false => rfl
  | true =>
    unfold bpB at e2
    rw [List.any_eq_true] at e2
    obtain ⟨k', hk', e2⟩ := e2
    rw [List.any_eq_true] at e2
    obtain ⟨i', hi', e2⟩ := e2
    rw [Bool.and_eq_true] at e2
    exact absurd (by simpa using e2.1) (hg k' i' (List.mem_range.mp hi'))
theorem ev_isGone (y : yC np nl nc len tim h z M) (w : yWF np nl nc tim h z) {p : Nat} (hp : p < nc) : f_Y_isGone (nI p) M = some (bI (!lcB h z p), M) := by
  unfold f_Y_isGone
  have hn := w.2.2.2.1
  rw [pr_rd rfl (by omega) (by omega)]
  cases e : lcB h z p with
  | true =>
    obtain ⟨k, i, hk, hi, ez⟩ := lcB_e e
    rw [← ez, (y.2.2.2.2.2.2.2.1 k i hi).1, if_neg (pr_m1 (by omega))]
    rfl
  | false =>
    rw [(y.2.2.2.2.2.2.2.2 p hp (lcB_f w e)).1, if_pos rfl]
    rfl
theorem ev_isBlocking (y : yC np nl nc len tim h z M) (w : yWF np nl nc tim h z) {p : Nat} (hp : p < nc) : f_Y_isBlocking (nI p) M = some (bI (bpB tim h z p), M) := by
  unfold f_Y_isBlocking
  have hn := w.2.2.2.1
  rw [pr_cc (ev_isGone y w hp)]
  cases e : lcB h z p with
  | true =>
    obtain ⟨k, i, hk, hi, ez⟩ := lcB_e e
    have hl := w.2.2.2.2.1 k
    subst ez
    rw [if_pos (show bI (!true) = 0 from rfl), pr_rd rfl (by omega) (by omega), pr_rd rfl (by omega) (by omega), (y.2.2.2.2.2.2.2.1 k i hi).1, (y.2.2.2.2.2.2.2.1 k i hi).2, pr_cc (ev_wouldBlock y w hp hk (by omega)), bpB_t w hi]
    cases wb tim (z k) (tu tim (z k i)) 0 i <;> rfl
  | false =>
    rw [if_neg (by decide), bpB_g (lcB_f w e)]
    rfl
theorem ev_cbl (y : yC np nl nc len tim h z M) (w : yWF np nl nc tim h z) : ∀ (c f p a : Nat), c < f → p + c = nc → a ≤ p → h_Y_countBlocking_4 f (nI a) (nI p) M = some (nI (a + (sumN (fun q => bN (bpB tim h z q)) nc - sumN (fun q => bN (bpB tim h z q)) p)), M) := by
  have hn := w.2.2.2.1
  intro c
  induction c with
  | zero =>
    intro f p a hf hp ha
    obtain ⟨f, rfl⟩ : ∃ g, f = g + 1 := ⟨f - 1, by omega⟩
    obtain rfl : p = nc := by omega
    rw [h_Y_countBlocking_4, y.2.2.1, if_pos (nI_le (by omega) (by omega)), Nat.sub_self]
    rfl
  | succ c ih =>
    intro f p a hf hp ha
    obtain ⟨f, rfl⟩ : ∃ g, f = g + 1 := ⟨f - 1, by omega⟩
    rw [h_Y_countBlocking_4, y.2.2.1, if_neg (nI_ge (by omega) (by omega)), pr_cc (ev_isBlocking y w (by omega))]
    have hmono : ∀ b, p + 1 ≤ b → sumN (fun q => bN (bpB tim h z q)) (p + 1) ≤ sumN (fun q => bN (bpB tim h z q)) b := by
      intro b
      induction b with
      | zero => intro q; omega
      | succ b ihb =>
        intro q
        rcases Nat.lt_or_ge b (p + 1) with r | r
        · obtain rfl : b = p := by omega
          exact Nat.le_refl _
        · exact Nat.le_trans (ihb r) (Nat.le_add_right _ _)
    have hm := hmono nc (by omega)
    have e1 : nI p + 1 = nI (p + 1) := nI_1 p
    have e2 : nI a + 1 = nI (a + 1) := nI_1 a
    have hs : sumN (fun q => bN (bpB tim h z q)) (p + 1) = sumN (fun q => bN (bpB tim h z q)) p + bN (bpB tim h z p) := rfl
    cases e : bpB tim h z p with
    | false =>
      rw [if_pos (show bI false = 0 from rfl), e1, ih f (p + 1) a (by omega) (by omega) (by omega)]
      have : bN (bpB tim h z p) = 0 := by rw [e]; rfl
      rw [show a + (sumN (fun q => bN (bpB tim h z q)) nc - sumN (fun q => bN (bpB tim h z q)) (p + 1)) = a + (sumN (fun q => bN (bpB tim h z q)) nc - sumN (fun q => bN (bpB tim h z q)) p) by omega]
    | true =>
      rw [if_neg (by decide), e1, e2, ih f (p + 1) (a + 1) (by omega) (by omega) (by omega)]
      have : bN (bpB tim h z p) = 1 := by rw [e]; rfl
      rw [show a + 1 + (sumN (fun q => bN (bpB tim h z q)) nc - sumN (fun q => bN (bpB tim h z q)) (p + 1)) = a + (sumN (fun q => bN (bpB tim h z q)) nc - sumN (fun q => bN (bpB tim h z q)) p) by omega]
theorem ev_countBlocking (y : yC np nl nc len tim h z M) (w : yWF np nl nc tim h z) : f_Y_countBlocking M = some (nI (sumN (fun q => bN (bpB tim h z q)) nc), M) := by
  unfold f_Y_countBlocking
  have h1 := ev_cbl y w nc kb_F 0 0 (by have := w.2.2.2.1; unfold kb_F; omega) (by omega) (Nat.le_refl 0)
  rw [show (0 : Int32) = nI 0 from rfl, h1]
  simp [sumN]
/-- the next wanted piece among the first so many -/
def oI (o : Option Nat) : Int32 := match o with
  | none => -1
  | some p => nI p
def tuO (tim : Nat → Int32) (o : Option Nat) : Nat := match o with
  | none => 1000
  | some q => tu tim q
def nwF (tim : Nat → Int32) (h : Nat → Nat) (z : Nat → Nat → Nat) : Nat → Option Nat
  | 0 => none
  | p + 1 => if lcB h z p = true ∧ tu tim p < tuO tim (nwF tim h z p) then some p else nwF tim h z p
theorem nwF_lt {p q : Nat} (e : nwF tim h z p = some q) : q < p ∧ lcB h z q = true ∧ tu tim q < 1000 := by
  induction p generalizing q with
  | zero => cases e
  | succ p ih =>
    unfold nwF at e
    by_cases c : lcB h z p = true ∧ tu tim p < tuO tim (nwF tim h z p)
    · rw [if_pos c] at e
      cases e
      refine ⟨by omega, c.1, ?_⟩
      have c2 := c.2
      cases e2 : nwF tim h z p with
      | none => rw [e2] at c2; exact c2
      | some r => rw [e2] at c2; exact Nat.lt_trans c2 (ih e2).2.2
    · rw [if_neg c] at e
      have := ih e
      exact ⟨by omega, this.2⟩
theorem tuO_le (o : Option Nat) (ho : ∀ q, o = some q → tu tim q < 1000) : tuO tim o ≤ 1000 := by
  cases o with
  | none => exact Nat.le_refl _
  | some q => exact Nat.le_of_lt (ho q rfl)
theorem ev_nwl (y : yC np nl nc len tim h z M) (w : yWF np nl nc tim h z) : ∀ (c f p : Nat), c < f → p + c = nc → h_Y_nextWanted_8 f (oI (nwF tim h z p)) (nI (tuO tim (nwF tim h z p))) (nI p) M = some (oI (nwF tim h z nc), M) := by
  have hn := w.2.2.2.1
  intro c
  induction c with
  | zero =>
    intro f p hf hp
    obtain ⟨f, rfl⟩ : ∃ g, f = g + 1 := ⟨f - 1, by omega⟩
    obtain rfl : p = nc := by omega
    rw [h_Y_nextWanted_8, y.2.2.1, if_pos (nI_le (by omega) (by omega))]
  | succ c ih =>
    intro f p hf hp
    obtain ⟨f, rfl⟩ : ∃ g, f = g + 1 := ⟨f - 1, by omega⟩
    have hpn : p < nc := by omega
    have hto := tuO_le (nwF tim h z p) (fun q e => (nwF_lt e).2.2)
    have e1 : nI p + 1 = nI (p + 1) := nI_1 p
    have hih := ih f (p + 1) (by omega) (by omega)
    rw [h_Y_nextWanted_8, y.2.2.1, if_neg (nI_ge (by omega) (by omega)), pr_cc (ev_isGone y w hpn)]
    have hu : nwF tim h z (p + 1) = if lcB h z p = true ∧ tu tim p < tuO tim (nwF tim h z p) then some p else nwF tim h z p := rfl
    cases e : lcB h z p with
    | false =>
      rw [if_neg (show ¬ bI (!false) = 0 by decide), e1]
      rw [hu, if_neg (fun q => by rw [e] at q; cases q.1)] at hih
      exact hih
    | true =>
      rw [if_pos (show bI (!true) = 0 from rfl), pr_cc (ev_turnOf y w hpn).1]
      have ht := (ev_turnOf y w hpn).2
      by_cases hlt : tu tim p < tuO tim (nwF tim h z p)
      · rw [if_neg (nI_ge hlt (by omega)), pr_cc (ev_turnOf y w hpn).1, e1]
        rw [hu, if_pos ⟨e, hlt⟩] at hih
        exact hih
      · rw [if_pos (nI_le (by omega) (by omega)), e1]
        rw [hu, if_neg (fun q => hlt q.2)] at hih
        exact hih
theorem ev_nextWanted (y : yC np nl nc len tim h z M) (w : yWF np nl nc tim h z) : f_Y_nextWanted M = some (oI (nwF tim h z nc), M) := by
  unfold f_Y_nextWanted
  exact ev_nwl y w nc kb_F 0 (by have := w.2.2.2.1; unfold kb_F; omega) (by omega)
/-- room on a pile, and it may lie there -/
def tkB (nl : Nat) (len : Nat → Int32) (h : Nat → Nat) (z : Nat → Nat → Nat) (k : Nat) (x : Int32) : Bool := decide (h k < nl) && (decide (h k = 0) || decide (x ≤ len (z k (h k - 1))))
theorem ev_takes (y : yC np nl nc len tim h z M) (w : yWF np nl nc tim h z) {k : Nat} (hk : k < 4) (x : Int32) : f_Y_takes (nI k) x M = some (bI (tkB nl len h z k x), M) := by
  unfold f_Y_takes tkB
  have hl := w.2.2.2.2.1 k
  have hn := w.2.2.1
  have hc := w.2.2.2.1
  rw [pr_rd rfl hk (by omega), y.2.2.2.1 k hk, y.2.1]
  by_cases h1 : h k < nl
  · rw [if_pos (nI_lt h1 (by omega)), pr_cc (ev_topOf y w hk), decide_eq_true h1, Bool.true_and]
    by_cases h0 : h k = 0
    · rw [if_pos h0, if_pos rfl, decide_eq_true h0]
      rfl
    · have hz := w.2.2.2.2.2.2.1 k (h k - 1) (by omega)
      rw [if_neg h0, if_neg (pr_m1 (by omega)), pr_rd rfl (by omega) (by omega), y.2.2.2.2.2.1 _ hz, decide_eq_false h0, Bool.false_or]
      by_cases h2 : len (z k (h k - 1)) < x
      · rw [if_pos h2, decide_eq_false (Int32.not_le.mpr h2)]
        rfl
      · rw [if_neg h2, decide_eq_true (Int32.not_lt.mp h2)]
        rfl
  · rw [if_neg (nI_nlt (by omega) (by omega)), decide_eq_false h1]
    rfl
theorem ev_wouldBlockOn (y : yC np nl nc len tim h z M) (w : yWF np nl nc tim h z) {p k : Nat} (hp : p < nc) (hk : k < 4) : f_Y_wouldBlockOn (nI p) (nI k) M = some (bI (wb tim (z k) (tu tim p) 0 (h k)), M) := by
  unfold f_Y_wouldBlockOn
  rw [pr_rd rfl hk (by omega), y.2.2.2.1 k hk, pr_cc (ev_wouldBlock y w hp hk (Nat.le_refl _)), bI_bz]
theorem ev_isTop (y : yC np nl nc len tim h z M) (w : yWF np nl nc tim h z) {k i : Nat} (hi : i < h k) : f_Y_isTop (nI (z k i)) M = some (bI (decide (i + 1 = h k)), M) := by
  unfold f_Y_isTop
  have hk : k < 4 := Nat.lt_of_lt_of_le (w.lt4 hi) w.2.1
  have hp := w.2.2.2.2.2.2.1 k i hi
  have hc := w.2.2.2.1
  rw [pr_cc (ev_isGone y w hp), lcB_t w hi, if_pos (show bI (!true) = 0 from rfl), pr_rd rfl (by omega) (by omega), (y.2.2.2.2.2.2.2.1 k i hi).1, pr_cc (ev_topOf y w hk), if_neg (show ¬ h k = 0 by omega)]
  have hq := w.2.2.2.2.2.2.1 k (h k - 1) (by omega)
  by_cases e : i + 1 = h k
  · rw [decide_eq_true e, if_pos (by rw [show h k - 1 = i by omega])]
    rfl
  · rw [decide_eq_false e, if_neg (fun q => e ?_)]
    · rfl
    · have := (w.2.2.2.2.2.2.2.1 k (h k - 1) k i (by omega) hi ((nI_eq (by omega) (by omega)).mp q)).2
      omega
end PV
