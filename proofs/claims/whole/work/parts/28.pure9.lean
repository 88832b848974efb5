/-! THE PURE PART 9: the search, as both make it; the class's search makes it -/
def sSkip (nl : Nat) (len : Nat → Int32) (h : Nat → Nat) (z : Nat → Nat → Nat) (a b : Nat) : Bool := decide (a = b) || (decide (h a = 0) || !(tkB nl len h z b (len (z a (h a - 1)))))
/-- at a node, with m choices left and nd nodes: (some moves, ..): found; (none, some n): none, n nodes are left; (none, none): nodes used up -/
def sLoop (np nl nc : Nat) (len tim : Nat → Int32) (lim : Nat) (child : (Nat → Nat) → (Nat → Nat → Nat) → List (Nat × Nat × Option Nat) → Nat → Option (List (Nat × Nat × Option Nat)) × Option Nat) (h : Nat → Nat) (z : Nat → Nat → Nat) (mv : List (Nat × Nat × Option Nat)) (r : Nat) : Nat → Nat → Option (List (Nat × Nat × Option Nat)) × Option Nat
  | 0, nd => (none, some nd)
  | m + 1, nd => if sSkip nl len h z ((np * np - (m + 1)) / np) ((np * np - (m + 1)) % np) = true then sLoop np nl nc len tim lim child h z mv r m nd
    else match nd with
      | 0 => (none, none)
      | n + 1 =>
        let q : Nat × Nat × Option Nat := (z ((np * np - (m + 1)) / np) (h ((np * np - (m + 1)) / np) - 1), (np * np - (m + 1)) / np, some ((np * np - (m + 1)) % np))
        let s := mvA (h, z) q
        let lv := lvF tim s.2 nc 10 s.1
        if isN (nwF tim lv.1 s.2 nc) = true then (some (mv ++ q :: lv.2), some n)
        else if lim < r + 1 + bd tim lv.1 s.2 np then sLoop np nl nc len tim lim child h z mv r m n
        else match child lv.1 s.2 (mv ++ q :: lv.2) n with
          | (some x, y) => (some x, y)
          | (none, none) => (none, none)
          | (none, some n2) => sLoop np nl nc len tim lim child h z mv r m n2
def sD (np nl nc : Nat) (len tim : Nat → Int32) (lim : Nat) : Nat → Nat → (Nat → Nat) → (Nat → Nat → Nat) → List (Nat × Nat × Option Nat) → Nat → Option (List (Nat × Nat × Option Nat)) × Option Nat
  | 0, _, _, _, _, _ => (none, none)
  | d + 1, r, h, z, mv, nd => sLoop np nl nc len tim lim (fun h z mv nd => sD np nl nc len tim lim d (r + 1) h z mv nd) h z mv r (np * np) nd
/-- of the search's cell all stays but the moves' number, the nodes and the cut -/
def stay3 (M M' : Nat → Nat → Int32) : Prop := ∀ j, j ≠ 3 → j ≠ 4 → j ≠ 6 → M' 2 j = M 2 j
theorem stay2.three {A B : Nat → Nat → Int32} (h1 : stay2 A B) : stay3 A B := fun j _ _ h6 => h1 j h6
theorem stay3.trans {A B C : Nat → Nat → Int32} (h1 : stay3 A B) (h2 : stay3 B C) : stay3 A C := fun j a b c => (h2 j a b c).trans (h1 j a b c)
/-- the class's memory at a point of its search -/
def sC (np nl nc : Nat) (len tim : Nat → Int32) (lim : Nat) (h : Nat → Nat) (z : Nat → Nat → Nat) (mv : List (Nat × Nat × Option Nat)) (cut nd : Nat) (M : Nat → Nat → Int32) : Prop :=
  yC np nl nc len tim h z M ∧ mvC mv M ∧ M 2 3 = nI cut ∧ M 2 4 = nI nd ∧ M 2 5 = nI lim
/-- how a part of the search ends: hb zb mvb: what lies and the moves where it gives up; h z mv: where its plans begin -/
def sEnd (np nl nc : Nat) (len tim : Nat → Int32) (lim : Nat) (hb : Nat → Nat) (zb : Nat → Nat → Nat) (mvb : List (Nat × Nat × Option Nat)) (h : Nat → Nat) (z : Nat → Nat → Nat) (mv : List (Nat × Nat × Option Nat)) (R : Option (List (Nat × Nat × Option Nat)) × Option Nat) (rr : Int32) (M' : Nat → Nat → Int32) : Prop :=
  (∃ l n, R = (some (mv ++ l), some n) ∧ rr = 1 ∧ (mv ++ l).length ≤ 22 ∧ mvV np nl (h, z) l ∧ sC np nl nc len tim lim (mvR (h, z) l).1 (mvR (h, z) l).2 (mv ++ l) 0 n M') ∨
  (∃ n, R = (none, some n) ∧ rr = 0 ∧ sC np nl nc len tim lim hb zb mvb 0 n M') ∨
  (∃ n, R = (none, none) ∧ rr = 0 ∧ sC np nl nc len tim lim hb zb mvb 1 n M')
def frC (M M' : Nat → Nat → Int32) : Prop := stay [2, 4, 5, 9, 10, 11, 12, 13] M M' ∧ stay3 M M'
theorem frC.rf {M : Nat → Nat → Int32} : frC M M := ⟨fun _ _ => rfl, fun _ _ _ _ => rfl⟩
theorem frC.trans {A B C : Nat → Nat → Int32} (h1 : frC A B) (h2 : frC B C) : frC A C := ⟨h1.1.trans h2.1, h1.2.trans h2.2⟩
section QC
variable {np nl nc lim : Nat} {len tim : Nat → Int32} {h : Nat → Nat} {z : Nat → Nat → Nat} {M : Nat → Nat → Int32} {mv : List (Nat × Nat × Option Nat)}
/-- a node of the search: all that could leave has left, something wanted lies, the bound keeps to the limit -/
def sNode (np nl nc : Nat) (tim : Nat → Int32) (lim : Nat) (h : Nat → Nat) (z : Nat → Nat → Nat) (mv : List (Nat × Nat × Option Nat)) (r : Nat) : Prop :=
  yWF np nl nc tim h z ∧ (∃ p, nwF tim h z nc = some p ∧ topk h z p = none) ∧ r + bd tim h z np ≤ lim ∧ lim ≤ 12 ∧ mv.length + tot h np ≤ r + 10
theorem sNode.bd1 {r : Nat} (s : sNode np nl nc tim lim h z mv r) : 1 ≤ bd tim h z np := by
  obtain ⟨w, ⟨p, e, e2⟩, _⟩ := s
  obtain ⟨k, i, hk, hi, hz⟩ := lcB_e (nwF_lt e).2.1
  have h1 : i + 1 ≠ h k := fun q => topk_none w e2 (k := k) (by omega) (by rw [← hz, show h k - 1 = i by omega])
  exact bd_some w (k := k) (i := i) (by omega) (by rw [e, hz])
/-- the bound behind a re-lift -/
theorem bd_relift (w : yWF np nl nc tim h z) {a b : Nat} (ha : 0 < h a) (hb : b < np) (hab : a ≠ b) : bd tim (mvA (h, z) (z a (h a - 1), a, some b)).1 (mvA (h, z) (z a (h a - 1), a, some b)).2 np + bN (bpB tim h z (z a (h a - 1))) = bd tim h z np + bN (wb tim (z b) (tu tim (z a (h a - 1))) 0 (h b)) := by
  have h1 := bd_pop (tim := tim) (z := z) (w.lt4 ha) ha
  have h2 := bd_push (tim := tim) (h := hU h a (h a - 1)) (z := z) (k := b) (p := z a (h a - 1)) hb
  have e : hU h a (h a - 1) b = h b := hU_n (fun q => hab q.symm)
  rw [e] at h2
  rw [bpB_t w (show h a - 1 < h a by omega)]
  show bd tim (hU (hU h a (h a - 1)) b (h b + 1)) (zU z b (h b) (z a (h a - 1))) np + _ = _
  omega
theorem tot_relift (w : yWF np nl nc tim h z) {a b : Nat} (ha : 0 < h a) (hb : b < np) (hab : a ≠ b) (p : Nat) : tot (mvA (h, z) (p, a, some b)).1 np = tot h np := by
  have h1 := tot_pop np a (w.lt4 ha) ha
  have h2 := tot_push (h := hU h a (h a - 1)) np b hb
  rw [hU_n (fun q => hab q.symm)] at h2
  show tot (hU (hU h a (h a - 1)) b (h b + 1)) np = _
  omega
theorem ev_relift (w : yWF np nl nc tim h z) (y : yC np nl nc len tim h z M) {a b : Nat} (ok : mvOk np nl (h, z) (z a (h a - 1), a, some b)) : ∃ M', f_Y_relift (nI (z a (h a - 1))) (nI b) M = some (0, M') ∧ yC np nl nc len tim (mvA (h, z) (z a (h a - 1), a, some b)).1 (mvA (h, z) (z a (h a - 1), a, some b)).2 M' ∧ stay [4, 5, 9, 10] M M' := by
  obtain ⟨h0, _, hb⟩ := ok
  have h0 : 0 < h a := h0
  obtain ⟨b1, b2, b3⟩ := hb b rfl
  have b2 : b ≠ a := b2
  have b3 : h b < nl := b3
  unfold f_Y_relift
  obtain ⟨M1, f1, y1, s1⟩ := ev_takeOff y w h0
  rw [pr_cc f1]
  have e : hU h a (h a - 1) b = h b := hU_n b2
  obtain ⟨M2, f2, y2, s2⟩ := ev_layOn y1 (w.pop a) (k := b) (p := z a (h a - 1)) b1 (by rw [e]; exact b3) (w.2.2.2.2.2.2.1 a _ (by omega)) (gone_pop w h0)
  rw [pr_cc f2]
  rw [e] at y2
  exact ⟨M2, rfl, y2, (s1.mono (fun c hc => by simp at hc ⊢; omega)).trans s2⟩
end QC
