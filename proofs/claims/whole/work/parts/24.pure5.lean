/-! THE PURE PART 5: counting, the next wanted piece, the bound -/
theorem wb_iff {tim : Nat → Int32} {zk : Nat → Nat} {t : Nat} : ∀ (c i : Nat), wb tim zk t i c = true ↔ ∃ j, i ≤ j ∧ j < i + c ∧ tu tim (zk j) < t := by
  intro c
  induction c with
  | zero => intro i; exact ⟨fun q => (by cases q), fun ⟨j, h1, h2, _⟩ => (by omega)⟩
  | succ c ih =>
    intro i
    unfold wb
    rw [Bool.or_eq_true, ih (i + 1), decide_eq_true_iff]
    constructor
    · rintro (q | ⟨j, h1, h2, h3⟩)
      · exact ⟨i, Nat.le_refl _, by omega, q⟩
      · exact ⟨j, by omega, by omega, h3⟩
    · rintro ⟨j, h1, h2, h3⟩
      by_cases e : j = i
      · subst e; exact Or.inl h3
      · exact Or.inr ⟨j, by omega, by omega, h3⟩
theorem wb_congr {tim : Nat → Int32} {zk zk' : Nat → Nat} {t : Nat} : ∀ (c i : Nat), (∀ j, i ≤ j → j < i + c → zk j = zk' j) → wb tim zk t i c = wb tim zk' t i c := by
  intro c
  induction c with
  | zero => intro i _; rfl
  | succ c ih =>
    intro i e
    unfold wb
    rw [e i (Nat.le_refl _) (by omega), ih (i + 1) (fun j h1 h2 => e j (by omega) (by omega))]
theorem sumN_congr {f g : Nat → Nat} : ∀ n, (∀ i, i < n → f i = g i) → sumN f n = sumN g n := by
  intro n
  induction n with
  | zero => intro _; rfl
  | succ n ih =>
    intro e
    show sumN f n + f n = sumN g n + g n
    rw [ih (fun i hi => e i (by omega)), e n (by omega)]
theorem cbk_congr {tim : Nat → Int32} {zk zk' : Nat → Nat} (n : Nat) (e : ∀ i, i < n → zk i = zk' i) : cbk tim zk n = cbk tim zk' n := by
  refine sumN_congr n (fun i hi => ?_)
  show bN (wb tim zk (tu tim (zk i)) 0 i) = bN (wb tim zk' (tu tim (zk' i)) 0 i)
  rw [e i hi, wb_congr i 0 (fun j _ h2 => e j (by omega))]
theorem sumN_add (f g : Nat → Nat) : ∀ n, sumN (fun i => f i + g i) n = sumN f n + sumN g n := by
  intro n
  induction n with
  | zero => rfl
  | succ n ih =>
    show sumN (fun i => f i + g i) n + (f n + g n) = sumN f n + f n + (sumN g n + g n)
    rw [ih]; omega
theorem sumN_0 {f : Nat → Nat} : ∀ n, (∀ i, i < n → f i = 0) → sumN f n = 0 := by
  intro n
  induction n with
  | zero => intro _; rfl
  | succ n ih =>
    intro e
    show sumN f n + f n = 0
    rw [ih (fun i hi => e i (by omega)), e n (by omega)]
theorem sumN_one (f : Nat → Nat) : ∀ n a, a < n → sumN f n = f a + sumN (fun i => if i = a then 0 else f i) n := by
  intro n
  induction n with
  | zero => intro a ha; omega
  | succ n ih =>
    intro a ha
    show sumN f n + f n = f a + (sumN (fun i => if i = a then 0 else f i) n + if n = a then 0 else f n)
    by_cases e : n = a
    · subst e
      rw [if_pos rfl, sumN_congr n (f := fun i => if i = n then 0 else f i) (g := f) (fun i hi => if_neg (by omega))]
      omega
    · rw [if_neg e, ih a (by omega)]
      omega
/-- a sum over pieces is the sum over the places that hold them -/
theorem sumN_enum {N : Nat} (e : Nat → Nat) : ∀ (m : Nat) (F : Nat → Nat), (∀ j, j < m → e j < N) → (∀ i j, i < m → j < m → e i = e j → i = j) → (∀ p, p < N → (∀ j, j < m → e j ≠ p) → F p = 0) → sumN F N = sumN (fun j => F (e j)) m := by
  intro m
  induction m with
  | zero => intro F _ _ h3; exact sumN_0 N (fun p hp => h3 p hp (fun j hj => by omega))
  | succ m ih =>
    intro F h1 h2 h3
    have hm := h1 m (by omega)
    rw [sumN_one F N (e m) hm, ih (fun i => if i = e m then 0 else F i) (fun j hj => h1 j (by omega)) (fun i j hi hj q => h2 i j (by omega) (by omega) q) (fun p hp q => ?_)]
    · show F (e m) + sumN (fun j => if e j = e m then 0 else F (e j)) m = sumN (fun j => F (e j)) m + F (e m)
      rw [sumN_congr m (f := fun j => if e j = e m then 0 else F (e j)) (g := fun j => F (e j)) (fun i hi => if_neg (fun q => by have := h2 i m (by omega) (by omega) q; omega))]
      omega
    · show (if p = e m then 0 else F p) = 0
      by_cases r : p = e m
      · rw [if_pos r]
      · rw [if_neg r]
        refine h3 p hp (fun j hj s => ?_)
        by_cases t : j = m
        · subst t; exact r s.symm
        · exact q j (by omega) s
section PY
variable {np nl nc : Nat} {len tim : Nat → Int32} {h : Nat → Nat} {z : Nat → Nat → Nat}
theorem sum_places (w : yWF np nl nc tim h z) : ∀ (K : Nat) (F : Nat → Nat), (∀ p, p < nc → (∀ k i, k < K → i < h k → z k i ≠ p) → F p = 0) → sumN F nc = sumN (fun k => sumN (fun i => F (z k i)) (h k)) K := by
  have inj := w.2.2.2.2.2.2.2.1
  have hz := w.2.2.2.2.2.2.1
  intro K
  induction K with
  | zero => intro F h3; exact sumN_0 nc (fun p hp => h3 p hp (fun k i hk => by omega))
  | succ K ih =>
    intro F h3
    let b : Nat → Bool := fun p => (List.range (h K)).any fun i => z K i == p
    have hb : ∀ p, b p = true ↔ ∃ i, i < h K ∧ z K i = p := by
      intro p
      show ((List.range (h K)).any fun i => z K i == p) = true ↔ _
      rw [List.any_eq_true]
      constructor
      · rintro ⟨i, hi, q⟩; exact ⟨i, List.mem_range.mp hi, by simpa using q⟩
      · rintro ⟨i, hi, q⟩; exact ⟨i, List.mem_range.mpr hi, by simpa using q⟩
    have e1 : sumN F nc = sumN (fun p => (if b p = true then 0 else F p) + (if b p = true then F p else 0)) nc := sumN_congr nc (fun p _ => by by_cases q : b p = true <;> simp [q])
    rw [e1, sumN_add, ih (fun p => if b p = true then 0 else F p) (fun p hp q => ?_), sumN_enum (z K) (h K) (fun p => if b p = true then F p else 0) (fun j hj => hz K j hj) (fun i j hi hj q => (inj K i K j hi hj q).2) (fun p hp q => ?_)]
    · show _ = sumN (fun k => sumN (fun i => F (z k i)) (h k)) K + sumN (fun i => F (z K i)) (h K)
      rw [sumN_congr K (f := fun k => sumN (fun i => if b (z k i) = true then 0 else F (z k i)) (h k)) (g := fun k => sumN (fun i => F (z k i)) (h k)) (fun k hk => sumN_congr (h k) (fun i hi => if_neg (fun q => ?_))), sumN_congr (h K) (f := fun j => if b (z K j) = true then F (z K j) else 0) (g := fun i => F (z K i)) (fun i hi => if_pos ((hb _).mpr ⟨i, hi, rfl⟩))]
      obtain ⟨i', hi', e⟩ := (hb _).mp q
      have := (inj K i' k i hi' hi e).1
      omega
    · exact if_neg (fun r => by obtain ⟨i, hi, s⟩ := (hb p).mp r; exact q i hi s)
    · show (if b p = true then 0 else F p) = 0
      by_cases r : b p = true
      · rw [if_pos r]
      · rw [if_neg r]
        refine h3 p hp (fun k i hk hi s => ?_)
        by_cases t : k = K
        · subst t; exact r ((hb p).mpr ⟨i, hi, s⟩)
        · exact q k i (by omega) hi s
/-- the class's bound is the reference's -/
theorem bound_same (w : yWF np nl nc tim h z) : sumN (fun q => bN (bpB tim h z q)) nc = bd tim h z np := by
  rw [sum_places w np (fun q => bN (bpB tim h z q)) (fun p hp q => by
    rw [bpB_g (fun k i hi => q k i (w.lt4 hi) hi)]; rfl)]
  exact sumN_congr np (fun k _ => sumN_congr (h k) (fun i hi => by rw [bpB_t w hi]))
theorem nwF_least {n : Nat} (p : Nat) (e : nwF tim h z n = some p) : ∀ q, q < n → lcB h z q = true → tu tim p ≤ tu tim q := by
  induction n generalizing p with
  | zero => cases e
  | succ n ih =>
    intro q hq hl
    unfold nwF at e
    by_cases c : lcB h z n = true ∧ tu tim n < tuO tim (nwF tim h z n)
    · rw [if_pos c] at e
      cases e
      by_cases r : q = n
      · subst r; exact Nat.le_refl _
      · cases e2 : nwF tim h z n with
        | none =>
          have hno := ih2 n e2 q (by omega) hl
          have := c.2; rw [e2] at this
          exact Nat.le_trans (Nat.le_of_lt this) hno
        | some s =>
          have := c.2; rw [e2] at this
          exact Nat.le_trans (Nat.le_of_lt this) (ih s e2 q (by omega) hl)
    · rw [if_neg c] at e
      by_cases r : q = n
      · subst r
        have h3 : ¬ tu tim q < tuO tim (nwF tim h z q) := fun k => c ⟨hl, k⟩
        rw [e] at h3
        exact Nat.not_lt.mp h3
      · exact ih p e q (by omega) hl
where
  ih2 (n : Nat) (e : nwF tim h z n = none) : ∀ q, q < n → lcB h z q = true → 1000 ≤ tu tim q := by
    induction n with
    | zero => intro q hq; omega
    | succ n ih =>
      intro q hq hl
      unfold nwF at e
      by_cases c : lcB h z n = true ∧ tu tim n < tuO tim (nwF tim h z n)
      · rw [if_pos c] at e; cases e
      · rw [if_neg c] at e
        by_cases r : q = n
        · subst r
          have h3 : ¬ tu tim q < tuO tim (nwF tim h z q) := fun k => c ⟨hl, k⟩
          rw [e] at h3
          exact Nat.not_lt.mp h3
        · exact ih e q (by omega) hl
theorem tu_inj (w : yWF np nl nc tim h z) {a b : Nat} (ha : a < nc) (hb : b < nc) (e : tu tim a = tu tim b) (hl : tu tim a < 1000) : a = b := by
  have hn := w.2.2.2.1
  unfold tu at e hl
  have tr := w.2.2.2.2.2.2.2.2
  rcases tr a ha with qa | ⟨s, hs, qa⟩
  · rw [if_pos qa] at hl; omega
  · rw [if_neg (show ¬ tim a = -1 by rw [qa]; exact pr_m1 (by omega)), qa, nI_clamp (by omega)] at e hl
    rcases tr b hb with qb | ⟨t, ht, qb⟩
    · rw [if_pos qb] at e; omega
    · rw [if_neg (show ¬ tim b = -1 by rw [qb]; exact pr_m1 (by omega)), qb, nI_clamp (by omega)] at e
      omega
theorem nw_lt (w : yWF np nl nc tim h z) {p : Nat} (e : nwF tim h z nc = some p) {k i : Nat} (hi : i < h k) (hne : z k i ≠ p) : tu tim p < tu tim (z k i) := by
  have h1 := nwF_least p e (z k i) (w.2.2.2.2.2.2.1 k i hi) (lcB_t w hi)
  have h2 := nwF_lt e
  rcases Nat.lt_or_ge (tu tim p) (tu tim (z k i)) with q | q
  · exact q
  · exact absurd (tu_inj w (w.2.2.2.2.2.2.1 k i hi) h2.1 (by omega) (by omega)) hne
/-- nothing wanted lies: nothing blocks -/
theorem bd_none (w : yWF np nl nc tim h z) (e : nwF tim h z nc = none) (K : Nat) : bd tim h z K = 0 := by
  refine sumN_0 K (fun k _ => sumN_0 (h k) (fun i hi => ?_))
  show bN (wb tim (z k) (tu tim (z k i)) 0 i) = 0
  cases q : wb tim (z k) (tu tim (z k i)) 0 i with
  | false => rfl
  | true =>
    obtain ⟨j, _, hj, hlt⟩ := (wb_iff i 0).mp q
    have h1 := nwF_least.ih2 nc e (z k j) (w.2.2.2.2.2.2.1 k j (by omega)) (lcB_t w (show j < h k by omega))
    have h2 : tu tim (z k i) ≤ 1000 := by
      unfold tu
      rcases w.2.2.2.2.2.2.2.2 (z k i) (w.2.2.2.2.2.2.1 k i hi) with r | ⟨t, ht, r⟩
      · rw [if_pos r]; exact Nat.le_refl _
      · have := w.2.2.2.2.2.2.1 k i hi
        have hn := w.2.2.2.1
        rw [r, if_neg (pr_m1 (by omega)), nI_clamp (by omega)]; omega
    omega
theorem sumN_ge (f : Nat → Nat) : ∀ n i, i < n → f i ≤ sumN f n := by
  intro n
  induction n with
  | zero => intro i hi; omega
  | succ n ih =>
    intro i hi
    show f i ≤ sumN f n + f n
    by_cases e : i = n
    · subst e; omega
    · have := ih i (by omega); omega
/-- the next wanted piece isn't a top: something blocks -/
theorem bd_some (w : yWF np nl nc tim h z) {k i : Nat} (hi : i + 1 < h k) (e : nwF tim h z nc = some (z k i)) : 1 ≤ bd tim h z np := by
  have hk := w.lt4 hi
  have h1 : z k (i + 1) ≠ z k i := fun q => by have := (w.2.2.2.2.2.2.2.1 k (i + 1) k i hi (by omega) q).2; omega
  have h2 := nw_lt w e hi h1
  have h3 : wb tim (z k) (tu tim (z k (i + 1))) 0 (i + 1) = true := (wb_iff (i + 1) 0).mpr ⟨i, by omega, by omega, h2⟩
  have h4 : 1 ≤ cbk tim (z k) (h k) := by
    have := sumN_ge (fun i => bN (wb tim (z k) (tu tim (z k i)) 0 i)) (h k) (i + 1) hi
    rw [h3] at this
    exact this
  exact Nat.le_trans h4 (sumN_ge (fun k => cbk tim (z k) (h k)) np k hk)
theorem sumN_upd {f g : Nat → Nat} : ∀ (n a : Nat), a < n → (∀ i, i < n → i ≠ a → g i = f i) → sumN g n + f a = sumN f n + g a := by
  intro n a ha e
  rw [sumN_one f n a ha, sumN_one g n a ha, sumN_congr n (f := fun i => if i = a then 0 else g i) (g := fun i => if i = a then 0 else f i) (fun i hi => ?_)]
  · omega
  · show (if i = a then 0 else g i) = if i = a then 0 else f i
    by_cases q : i = a
    · rw [if_pos q, if_pos q]
    · rw [if_neg q, if_neg q, e i hi q]
/-- a top piece goes: its own blocking goes with it -/
theorem bd_pop {K k : Nat} (hk : k < K) (h0 : 0 < h k) : bd tim (hU h k (h k - 1)) z K + bN (wb tim (z k) (tu tim (z k (h k - 1))) 0 (h k - 1)) = bd tim h z K := by
  have h1 := sumN_upd (f := fun j => cbk tim (z j) (h j)) (g := fun j => cbk tim (z j) (hU h k (h k - 1) j)) K k hk (fun i _ q => by show cbk tim (z i) (hU h k (h k - 1) i) = _; rw [hU_n q])
  have h2 : cbk tim (z k) (h k) = cbk tim (z k) (h k - 1) + bN (wb tim (z k) (tu tim (z k (h k - 1))) 0 (h k - 1)) := by
    obtain ⟨n, e⟩ : ∃ n, h k = n + 1 := ⟨h k - 1, by omega⟩
    rw [e]
    rfl
  have h3 : cbk tim (z k) (hU h k (h k - 1) k) = cbk tim (z k) (h k - 1) := by rw [hU_s]
  rw [h3] at h1
  show sumN _ K + _ = sumN _ K
  omega
theorem bd_push {K k p : Nat} (hk : k < K) : bd tim (hU h k (h k + 1)) (zU z k (h k) p) K = bd tim h z K + bN (wb tim (z k) (tu tim p) 0 (h k)) := by
  have h1 := sumN_upd (f := fun j => cbk tim (z j) (h j)) (g := fun j => cbk tim (zU z k (h k) p j) (hU h k (h k + 1) j)) K k hk (fun i _ q => by
    show cbk tim (zU z k (h k) p i) (hU h k (h k + 1) i) = cbk tim (z i) (h i)
    rw [hU_n q]
    exact cbk_congr (h i) (fun j _ => zU_n (fun r => q r.1)))
  have h3 : cbk tim (zU z k (h k) p k) (hU h k (h k + 1) k) = cbk tim (z k) (h k) + bN (wb tim (z k) (tu tim p) 0 (h k)) := by
    rw [hU_s]
    show cbk tim (zU z k (h k) p k) (h k) + bN (wb tim (zU z k (h k) p k) (tu tim (zU z k (h k) p k (h k))) 0 (h k)) = _
    rw [zU_s, cbk_congr (zk := zU z k (h k) p k) (zk' := z k) (h k) (fun j hj => zU_n (fun r => by omega)), wb_congr (zk := zU z k (h k) p k) (zk' := z k) (h k) 0 (fun j _ hj => zU_n (fun r => by omega))]
  rw [h3] at h1
  show sumN _ K = sumN _ K + _
  omega
/-- the next wanted piece leaves: the bound stays -/
theorem bd_leave (w : yWF np nl nc tim h z) {k : Nat} (h0 : 0 < h k) (e : nwF tim h z nc = some (z k (h k - 1))) : bd tim (hU h k (h k - 1)) z np = bd tim h z np := by
  have h1 := bd_pop (tim := tim) (z := z) (w.lt4 h0) h0
  have h2 : wb tim (z k) (tu tim (z k (h k - 1))) 0 (h k - 1) = false := by
    cases q : wb tim (z k) (tu tim (z k (h k - 1))) 0 (h k - 1) with
    | false => rfl
    | true =>
      obtain ⟨j, _, hj, hlt⟩ := (wb_iff _ 0).mp q
      have := nwF_least _ e (z k j) (w.2.2.2.2.2.2.1 k j (by omega)) (lcB_t w (show j < h k by omega))
      omega
  rw [h2] at h1
  exact h1
end PY
