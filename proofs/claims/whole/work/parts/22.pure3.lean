/-! THE PURE PART 3: the reference's reads, at a depth d of its search (0: the yard itself) -/
theorem bit_is : ∀ g, g < 1024 → ∀ p, p < 10 → ((((nI g >>> (nI p &&& 31)) &&& (1 : Int32)) = (1 : Int32)) ↔ g.testBit p = true) := by
  intro g hg p hp
  have e0 : (nI p &&& 31) = nI p := by
    have : ∀ p, p < 10 → (nI p &&& 31) = nI p := by decide +kernel
    exact this p hp
  have e1 : nI g >>> nI p = nI (g / 2 ^ p) := pk_shrN (by omega) (nI p) p (by
    have : ∀ p, p < 10 → ((nI p).toBitVec.smod 32).toNat = p := by decide +kernel
    exact this p hp)
  have e2 : nI (g / 2 ^ p) &&& (1 : Int32) = nI (g / 2 ^ p % 2 ^ 1) := pk_andN (by have := Nat.div_le_self g (2 ^ p); omega) 1 (by decide)
  rw [e0, e1, e2, show (1 : Int32) = nI 1 from rfl, nI_eq (by omega) (by omega), Nat.testBit_eq_decide_div_mod_eq]
  simp
theorem bit_or : ∀ p, p < 10 → ∀ g, g < 1024 → nI g ||| ((1 : Int32) <<< (nI p &&& 31)) = nI (g ||| 2 ^ p) := by
  intro p hp g hg
  have e0 : ((1 : Int32) <<< (nI p &&& 31)) = nI (2 ^ p) := by
    have : ∀ p, p < 10 → ((1 : Int32) <<< (nI p &&& 31)) = nI (2 ^ p) := by decide +kernel
    exact this p hp
  rw [e0]
  apply Int32.toBitVec_inj.mp
  rw [Int32.toBitVec_or]
  show BitVec.ofNat 32 g ||| BitVec.ofNat 32 (2 ^ p) = BitVec.ofNat 32 (g ||| 2 ^ p)
  rw [BitVec.ofNat_or]
def yM (np nl nc : Nat) (len tim : Nat → Int32) (d : Nat) (h : Nat → Nat) (z : Nat → Nat → Nat) (N : Nat → Nat → Int32) : Prop :=
  N 0 1 = nI np ∧ N 0 2 = nI nl ∧ N 0 3 = nI nc ∧ (∀ k, k < 4 → N 6 (4 * d + k) = nI (h k)) ∧ (∀ k i, k < 4 → i < h k → N 5 (20 * d + 5 * k + i) = nI (z k i)) ∧ (∀ p, p < nc → N 2 p = len p) ∧ (∀ p, p < nc → N 3 p = tim p) ∧ ∃ g, g < 2 ^ nc ∧ N 7 d = nI g ∧ ∀ p, p < nc → g.testBit p = !lcB h z p
section PW
variable {np nl nc d : Nat} {len tim : Nat → Int32} {h : Nat → Nat} {z : Nat → Nat → Nat} {N : Nat → Nat → Int32}
theorem em_cell (d k i : Nat) (N : Nat → Nat → Int32) : f_M_cell (nI d) (nI k) (nI i) N = some (nI (20 * d + 5 * k + i), N) := by
  unfold f_M_cell
  rw [show (20 : Int32) = nI 20 from rfl, show (5 : Int32) = nI 5 from rfl, pk_mul, pk_mul, nI_add, nI_add]
theorem em_hi (d k : Nat) : (4 : Int32) * nI d + nI k = nI (4 * d + k) := by
  rw [show (4 : Int32) = nI 4 from rfl, pk_mul, nI_add]
theorem em_isGone (y : yM np nl nc len tim d h z N) (w : yWF np nl nc tim h z) (hd : d < 15) {p : Nat} (hp : p < nc) : f_M_isGone (nI d) (nI p) N = some (bI (!lcB h z p), N) := by
  unfold f_M_isGone
  obtain ⟨g, hg, e, hb⟩ := y.2.2.2.2.2.2.2
  have hn := w.2.2.2.1
  have hg2 : g < 1024 := Nat.lt_of_lt_of_le hg (Nat.pow_le_pow_right (by omega) hn)
  rw [pr_rd rfl hd (by omega), e]
  have hh := bit_is g hg2 p (by omega)
  rw [← hb p hp]
  cases e2 : g.testBit p with
  | true => rw [if_pos (hh.mpr e2)]; rfl
  | false => rw [if_neg (fun q => by rw [hh.mp q] at e2; cases e2)]; rfl
theorem em_isAhead (y : yM np nl nc len tim d h z N) (w : yWF np nl nc tim h z) {a b : Nat} (ha : a < nc) (hb : b < nc) : f_M_isAhead (nI a) (nI b) N = some (bI (decide (tu tim a < tu tim b)), N) := by
  unfold f_M_isAhead tu
  have hn := w.2.2.2.1
  have ta := y.2.2.2.2.2.2.1 a ha
  have tb := y.2.2.2.2.2.2.1 b hb
  rw [pr_rd rfl (by omega) (by omega), ta]
  have tr := w.2.2.2.2.2.2.2.2
  rcases tr a ha with qa | ⟨s, hs, qa⟩
  · rw [qa, if_neg (by decide), if_pos rfl]
    rcases tr b hb with qb | ⟨t, ht, qb⟩
    · rw [qb, if_pos rfl]; rfl
    · rw [if_neg (show ¬ tim b = -1 by rw [qb]; exact pr_m1 (by omega)), qb, nI_clamp (by omega), decide_eq_false (by omega)]; rfl
  · rw [qa, if_pos (nI_pos' (by omega)), if_neg (pr_m1 (by omega)), pr_rd rfl (by omega) (by omega), tb, nI_clamp (by omega)]
    rcases tr b hb with qb | ⟨t, ht, qb⟩
    · rw [qb, if_pos (by decide), if_pos rfl, decide_eq_true (by omega)]; rfl
    · rw [qb, if_neg (nI_pos (by omega)), if_neg (pr_m1 (by omega)), nI_clamp (by omega)]
      rw [pr_rd rfl (by omega) (by omega), pr_rd rfl (by omega) (by omega), ta, tb, qa, qb]
      by_cases h1 : s < t
      · rw [if_pos (nI_lt h1 (by omega)), decide_eq_true (by omega)]; rfl
      · rw [if_neg (nI_nlt (by omega) (by omega)), pr_rd rfl (by omega) (by omega), pr_rd rfl (by omega) (by omega), ta, tb, qa, qb]
        by_cases h2 : s = t
        · rw [if_pos (by rw [h2])]
          by_cases h3 : b ≤ a
          · rw [if_pos (nI_le h3 (by omega)), decide_eq_false (by omega)]; rfl
          · rw [if_neg (nI_ge (by omega) (by omega)), decide_eq_true (by omega)]; rfl
        · rw [if_neg (fun q => h2 ((nI_eq (by omega) (by omega)).mp q)), decide_eq_false (by omega)]; rfl
theorem em_topOf (y : yM np nl nc len tim d h z N) (w : yWF np nl nc tim h z) (hd : d < 15) {k : Nat} (hk : k < 4) : f_M_topOf (nI d) (nI k) N = some (if h k = 0 then -1 else nI (z k (h k - 1)), N) := by
  unfold f_M_topOf
  have hl := w.2.2.2.2.1 k
  have hn := w.2.2.1
  rw [pr_rd (em_hi d k) (by omega) (by omega), y.2.2.2.1 k hk]
  by_cases h0 : h k = 0
  · rw [if_pos ((pr_0 (by omega)).mpr h0), if_pos h0]
  · rw [if_neg (fun q => h0 ((pr_0 (by omega)).mp q)), if_neg h0, pr_rd (em_hi d k) (by omega) (by omega), y.2.2.2.1 k hk]
    have e : nI (h k) - (1 : Int32) = nI (h k - 1) := by rw [show (1 : Int32) = nI 1 from rfl, pk_sub (by omega)]
    rw [e, pr_cc (em_cell d k (h k - 1) N), pr_rd rfl (by omega) (by omega), y.2.2.2.2.1 k (h k - 1) hk (by omega)]
theorem em_takes (y : yM np nl nc len tim d h z N) (w : yWF np nl nc tim h z) (hd : d < 15) {k : Nat} (hk : k < 4) (x : Int32) : f_M_takes (nI d) (nI k) x N = some (bI (tkB nl len h z k x), N) := by
  unfold f_M_takes tkB
  have hl := w.2.2.2.2.1 k
  have hn := w.2.2.1
  have hc := w.2.2.2.1
  rw [pr_rd (em_hi d k) (by omega) (by omega), y.2.2.2.1 k hk, y.2.1]
  by_cases h1 : h k < nl
  · rw [if_neg (nI_ge h1 (by omega)), decide_eq_true h1, Bool.true_and]
    by_cases h0 : h k = 0
    · rw [if_pos ((pr_0 (by omega)).mpr h0), decide_eq_true h0]
      rfl
    · have hz := w.2.2.2.2.2.2.1 k (h k - 1) (by omega)
      have e : nI (h k) - (1 : Int32) = nI (h k - 1) := by rw [show (1 : Int32) = nI 1 from rfl, pk_sub (by omega)]
      rw [if_neg (fun q => h0 ((pr_0 (by omega)).mp q)), e, pr_cc (em_cell d k (h k - 1) N), pr_rd rfl (by omega) (by omega), y.2.2.2.2.1 k (h k - 1) hk (by omega), pr_rd rfl (by omega) (by omega), y.2.2.2.2.2.1 _ hz, decide_eq_false h0, Bool.false_or]
      by_cases h2 : len (z k (h k - 1)) < x
      · rw [if_pos h2, decide_eq_false (Int32.not_le.mpr h2)]
        rfl
      · rw [if_neg h2, decide_eq_true (Int32.not_lt.mp h2)]
        rfl
  · rw [if_pos (nI_le (by omega) (by omega)), decide_eq_false h1]
    rfl
theorem em_bol (y : yM np nl nc len tim d h z N) (w : yWF np nl nc tim h z) (hd : d < 15) {k p : Nat} (hk : k < 4) (hp : p < nc) : ∀ (c f i : Nat), c < f → i + c ≤ h k → h_M_blocksOn_3 f (nI d) (nI k) (nI (i + c)) (nI p) (nI i) N = some (bI (wb tim (z k) (tu tim p) i c), N) := by
  have hl := w.2.2.2.2.1 k
  have hn := w.2.2.1
  intro c
  induction c with
  | zero =>
    intro f i hf hi
    obtain ⟨f, rfl⟩ : ∃ g, f = g + 1 := ⟨f - 1, by omega⟩
    rw [h_M_blocksOn_3, if_pos (nI_le (by omega) (by omega))]
    rfl
  | succ c ih =>
    intro f i hf hi
    obtain ⟨f, rfl⟩ : ∃ g, f = g + 1 := ⟨f - 1, by omega⟩
    have hz := w.2.2.2.2.2.2.1 k i (by omega)
    rw [h_M_blocksOn_3, if_neg (nI_ge (by omega) (by omega)), pr_cc (em_cell d k i N), pr_rd rfl (by omega) (by omega), y.2.2.2.2.1 k i hk (by omega), pr_cc (em_isAhead y w hz hp)]
    unfold wb
    by_cases hlt : tu tim (z k i) < tu tim p
    · rw [decide_eq_true hlt, if_neg (by decide)]
      rfl
    · rw [decide_eq_false hlt, if_pos (show bI false = 0 from rfl), Bool.false_or]
      have e : nI i + 1 = nI (i + 1) := nI_1 i
      rw [e, show i + (c + 1) = i + 1 + c by omega]
      exact ih f (i + 1) (by omega) (by omega)
theorem em_blocksOn (y : yM np nl nc len tim d h z N) (w : yWF np nl nc tim h z) (hd : d < 15) {k p n : Nat} (hk : k < 4) (hp : p < nc) (hn : n ≤ h k) : f_M_blocksOn (nI d) (nI k) (nI n) (nI p) N = some (bI (wb tim (z k) (tu tim p) 0 n), N) := by
  unfold f_M_blocksOn
  have hl := w.2.2.2.2.1 k
  have hq := w.2.2.1
  have h1 := em_bol y w hd hk hp n kb_F 0 (by unfold kb_F; omega) (by omega)
  rw [Nat.zero_add] at h1
  exact h1
/-- how many of a pile's first so many block -/
def cbk (tim : Nat → Int32) (zk : Nat → Nat) : Nat → Nat := sumN (fun i => bN (wb tim zk (tu tim (zk i)) 0 i))
def bd (tim : Nat → Int32) (h : Nat → Nat) (z : Nat → Nat → Nat) : Nat → Nat := sumN (fun k => cbk tim (z k) (h k))
theorem cbk_le (zk : Nat → Nat) (n : Nat) : cbk tim zk n ≤ n := by
  induction n with
  | zero => exact Nat.le_refl _
  | succ n ih =>
    have : cbk tim zk (n + 1) = cbk tim zk n + bN (wb tim zk (tu tim (zk n)) 0 n) := rfl
    have h2 : ∀ b, bN b ≤ 1 := by decide
    have := h2 (wb tim zk (tu tim (zk n)) 0 n)
    omega
theorem em_bnl (y : yM np nl nc len tim d h z N) (w : yWF np nl nc tim h z) (hd : d < 15) {k : Nat} (hk : k < 4) (kk : Int32 → Int32 → Int32 → (Nat → Nat → Int32) → Option (Int32 × (Nat → Nat → Int32))) : ∀ (c f i a : Nat), c < f → i + c = h k → a ≤ 100 → h_M_boundAt_15 kk f (nI d) (nI (a + cbk tim (z k) i)) (nI k) (nI i) N = kk (nI d) (nI (a + cbk tim (z k) (h k))) (nI (k + 1)) N := by
  have hl := w.2.2.2.2.1 k
  have hn := w.2.2.1
  intro c
  induction c with
  | zero =>
    intro f i a hf hi ha
    obtain ⟨f, rfl⟩ : ∃ g, f = g + 1 := ⟨f - 1, by omega⟩
    obtain rfl : i = h k := by omega
    rw [h_M_boundAt_15, pr_rd (em_hi d k) (by omega) (by omega), y.2.2.2.1 k hk, if_pos (nI_le (by omega) (by omega)), show nI k + 1 = nI (k + 1) from nI_1 k]
  | succ c ih =>
    intro f i a hf hi ha
    obtain ⟨f, rfl⟩ : ∃ g, f = g + 1 := ⟨f - 1, by omega⟩
    have hz := w.2.2.2.2.2.2.1 k i (by omega)
    rw [h_M_boundAt_15, pr_rd (em_hi d k) (by omega) (by omega), y.2.2.2.1 k hk, if_neg (nI_ge (by omega) (by omega)), pr_cc (em_cell d k i N), pr_rd rfl (by omega) (by omega), y.2.2.2.2.1 k i hk (by omega), pr_cc (em_blocksOn y w hd hk hz (by omega))]
    have e : nI i + 1 = nI (i + 1) := nI_1 i
    have hs : cbk tim (z k) (i + 1) = cbk tim (z k) i + bN (wb tim (z k) (tu tim (z k i)) 0 i) := rfl
    have hih := ih f (i + 1) a (by omega) (by omega) ha
    cases e2 : wb tim (z k) (tu tim (z k i)) 0 i with
    | false =>
      rw [if_pos (show bI false = 0 from rfl), e]
      rw [hs, e2] at hih
      exact hih
    | true =>
      rw [if_neg (by decide), e, show nI (a + cbk tim (z k) i) + 1 = nI (a + cbk tim (z k) i + 1) from nI_1 _]
      rw [hs, e2, ← Nat.add_assoc] at hih
      exact hih
theorem em_bol2 (y : yM np nl nc len tim d h z N) (w : yWF np nl nc tim h z) (hd : d < 15) : ∀ (c f k : Nat), c < f → k + c = np → h_M_boundAt_4 f (nI d) (nI (bd tim h z k)) (nI k) N = some (nI (bd tim h z np), N) := by
  have h4 := w.2.1
  have hl := w.2.2.2.2.1
  have hn := w.2.2.1
  have hbd : ∀ k, bd tim h z k ≤ 5 * k := by
    intro k
    induction k with
    | zero => exact Nat.le_refl _
    | succ k ih =>
      have e : bd tim h z (k + 1) = bd tim h z k + cbk tim (z k) (h k) := rfl
      have := cbk_le (tim := tim) (z k) (h k)
      have := hl k
      omega
  intro c
  induction c with
  | zero =>
    intro f k hf hk
    obtain ⟨f, rfl⟩ : ∃ g, f = g + 1 := ⟨f - 1, by omega⟩
    obtain rfl : k = np := by omega
    rw [h_M_boundAt_4, y.1, if_pos (nI_le (by omega) (by omega))]
  | succ c ih =>
    intro f k hf hk
    obtain ⟨f, rfl⟩ : ∃ g, f = g + 1 := ⟨f - 1, by omega⟩
    have hb := hbd k
    rw [h_M_boundAt_4, y.1, if_neg (nI_ge (by omega) (by omega))]
    have h1 := em_bnl y w hd (show k < 4 by omega) (fun y0 y1 y2 N => h_M_boundAt_4 f y0 y1 y2 N) (h k) kb_F 0 (bd tim h z k) (by have := hl k; unfold kb_F; omega) (by omega) (by omega)
    rw [show bd tim h z k + cbk tim (z k) 0 = bd tim h z k from rfl] at h1
    exact h1.trans (ih f (k + 1) (by omega) (by omega))
theorem em_boundAt (y : yM np nl nc len tim d h z N) (w : yWF np nl nc tim h z) (hd : d < 15) : f_M_boundAt (nI d) N = some (nI (bd tim h z np), N) := by
  unfold f_M_boundAt
  exact em_bol2 y w hd np kb_F 0 (by have := w.2.1; unfold kb_F; omega) (by omega)
theorem em_nwl (y : yM np nl nc len tim d h z N) (w : yWF np nl nc tim h z) (hd : d < 15) : ∀ (c f p : Nat), c < f → p + c = nc → h_M_nextWanted_4 f (nI d) (oI (nwF tim h z p)) (nI p) N = some (oI (nwF tim h z nc), N) := by
  have hn := w.2.2.2.1
  intro c
  induction c with
  | zero =>
    intro f p hf hp
    obtain ⟨f, rfl⟩ : ∃ g, f = g + 1 := ⟨f - 1, by omega⟩
    obtain rfl : p = nc := by omega
    rw [h_M_nextWanted_4, y.2.2.1, if_pos (nI_le (by omega) (by omega))]
  | succ c ih =>
    intro f p hf hp
    obtain ⟨f, rfl⟩ : ∃ g, f = g + 1 := ⟨f - 1, by omega⟩
    have hpn : p < nc := by omega
    have e1 : nI p + 1 = nI (p + 1) := nI_1 p
    have hih := ih f (p + 1) (by omega) (by omega)
    rw [h_M_nextWanted_4, y.2.2.1, if_neg (nI_ge (by omega) (by omega)), pr_cc (em_isGone y w hd hpn)]
    have hu : nwF tim h z (p + 1) = if lcB h z p = true ∧ tu tim p < tuO tim (nwF tim h z p) then some p else nwF tim h z p := rfl
    cases e : lcB h z p with
    | false =>
      rw [if_neg (show ¬ bI (!false) = 0 by decide), e1]
      rw [hu, if_neg (fun q => by rw [e] at q; cases q.1)] at hih
      exact hih
    | true =>
      rw [if_pos (show bI (!true) = 0 from rfl), pr_rd rfl (by omega) (by omega), y.2.2.2.2.2.2.1 p hpn]
      rcases w.2.2.2.2.2.2.2.2 p hpn with q | ⟨t, ht, q⟩
      · rw [q, if_pos (by decide), e1]
        have htu : tu tim p = 1000 := by unfold tu; rw [if_pos q]
        have hto := tuO_le (tim := tim) (nwF tim h z p) (fun q e => (nwF_lt e).2.2)
        rw [hu, if_neg (fun r => by have := r.2; omega)] at hih
        exact hih
      · rw [q, if_neg (nI_pos (by omega))]
        have htu : tu tim p < 1000 := by
          unfold tu
          rw [q, if_neg (pr_m1 (by omega)), nI_clamp (by omega)]
          omega
        cases e2 : nwF tim h z p with
        | none =>
          rw [if_pos (show oI none < 0 by decide), e1]
          rw [hu, e2, if_pos ⟨e, htu⟩] at hih
          exact hih
        | some r =>
          have hr := nwF_lt e2
          rw [if_neg (show ¬ oI (some r) < 0 from nI_pos (by omega)), show oI (some r) = nI r from rfl, pr_cc (em_isAhead y w hpn (by omega))]
          by_cases hlt : tu tim p < tu tim r
          · rw [decide_eq_true hlt, if_neg (by decide), e1]
            rw [hu, e2, if_pos ⟨e, hlt⟩] at hih
            exact hih
          · rw [decide_eq_false hlt, if_pos (show bI false = 0 from rfl), e1]
            rw [hu, e2, if_neg (fun q => hlt q.2)] at hih
            exact hih
theorem em_nextWanted (y : yM np nl nc len tim d h z N) (w : yWF np nl nc tim h z) (hd : d < 15) : f_M_nextWanted (nI d) N = some (oI (nwF tim h z nc), N) := by
  unfold f_M_nextWanted
  exact em_nwl y w hd nc kb_F 0 (by have := w.2.2.2.1; unfold kb_F; omega) (by omega)
end PW
