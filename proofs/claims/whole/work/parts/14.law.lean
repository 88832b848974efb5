/-! THE CLAIM OUT OF ONE WALK OF THE LAW'S BODY. Your part is whole_start (and what it stands on); all else here is the same for every law, but numbers. -/
def R_law : String := "PileLiftsLaw"
def lw_P (b : Addr) (xs : List Int32) (args : Array Value) (s : State) : Prop := args = #[.ref b] ∧ s.IntsAt b xs ∧ xs.length ≤ 2048 ∧ (Jvm.Cond.and given_1 narrow_1).before args s = true
def lw_Q (_ : Array Value) (s : State) (o : Outcome) (t : State) : Prop := o = .returned (some (.int 1)) ∧ Framed s o t [] 628987 7209143
def lw_Z (below : List Frame) (a : Array Value) (s : State) : State → Prop := fun t => ∃ o, t.status = .running ∧ Ended t below o ∧ lw_Q a s o t
/-- the law's own end, with 1 on the stack, nothing written that was there before, its room as the claim has it -/
theorem lw_ret {p : Program} {l : Launch} {e : Env} {s : State} {m : MethodId} {below : List Frame} {meth : Method} {c : Code} {b : Nat} (hx : p.tables.exec = Jvm.exec) (hb : c.code = code) (hr : meth.sig.returnType = ret) (hlocks : meth.locks = false) {pc : Nat} {H : Heap} {ls : Array Slot} (hdg : decode code pc = .ok (.ireturn, 1)) : W p l e room_1 s m #[Value.ref b] below meth c H [] 628987 7209143 (lw_Z below #[Value.ref b] s) (F0 m pc ls [.int 1]) := by
  intro T hT X
  obtain ⟨fs, hret, hrun, hended, hW, hframe⟩ := X.leave (v := some (.int 1)) (hlocks := hlocks) (fun h => by rw [hr] at h; cases h)
  have hmeth' : T.vm.method? m = some meth := X.method'
  refine ⟨T.setFrames fs, ?_, .returned (some (.int 1)), hrun, hended, rfl, ⟨_, rfl⟩, hW, hframe⟩
  jvm_step X.here [X.here.top, hx, hb, hdg, hmeth', hr, ret, narrow_b1]
  (try refine ⟨rfl, ?_⟩); (try refine ⟨rfl, ?_⟩)
  first | (intro acts; rw [hret _ acts rfl rfl rfl]) | rw [hret _ _ rfl rfl rfl]
  exact Steps.refl _
/-- what holds at the law's entry: the machine, the code, the tables' words (any of lw_tbl by 'hts w (by decide +kernel)'), the script of L ints xs at the cell b, what the Statement gives of the start (any of its parts by flat_of_before) -/
def lw_At (p : Program) (s : State) (m : MethodId) (meth : Method) (c : Code) (b L : Nat) (xs : Nat → Int32) : Prop :=
  p.tables.exec = Jvm.exec ∧ c.code = code ∧ meth.sig.returnType = ret ∧ c.maxLocals = 7 ∧ s.vm.findClass R_law = some m.cls ∧ (∀ w ∈ lw_tbl, w.before #[Value.ref b] s = true) ∧ va_X b L xs s s.heap ∧ b < s.heap.size ∧ meth.locks = false ∧ (Jvm.Cond.and given_1 narrow_1).before #[Value.ref b] s = true
def wsLaw : List Cond := wsH ++ wsM
theorem wsLaw_good : ∀ w ∈ wsLaw, goodWord w = true := fun w h => by
  rcases List.mem_append.mp h with h | h
  · exact wsH_good w h
  · exact List.all_eq_true.mp wsM_good w h
theorem wsLaw_M {w0 : Cond} (h : w0 ∈ wsM) : GoodIn wsLaw (w0 :: wsM) := fun w hw => by
  have h1 : w ∈ wsLaw := List.mem_append_right _ ((List.mem_cons.mp hw).elim (fun e => e ▸ h) id)
  exact ⟨h1, good_of_word (wsLaw_good w h1)⟩
theorem wsLaw_C {w0 : Cond} (h : w0 ∈ wsC) : GoodIn wsLaw (w0 :: wsC) := fun w hw => by
  have h1 : w ∈ wsLaw := List.mem_append_left _ (wsH_C h w hw).1
  exact ⟨h1, good_of_word (wsLaw_good w h1)⟩
theorem wsLaw_S {y : MethodName} {idx : Nat} {w0 : Cond} (h1 : Cond.methodLink "PileLiftsLaw" idx y ∈ wsL) (h2 : Cond.static y ∈ wsL) (h3 : Cond.initialized y.cls ∈ wsL) (h4 : w0 ∈ wsL) : GoodIn wsLaw (va_wsS "PileLiftsLaw" idx y (w0 :: wsH)) := fun w hw => by
  have h5 : w ∈ wsLaw := by
    refine List.mem_append_left _ ?_
    rcases List.mem_append.mp hw with h | h
    · simp only [List.mem_cons, List.not_mem_nil, or_false] at h
      rcases h with rfl | rfl | rfl
      · exact List.mem_append_left _ h1
      · exact List.mem_append_left _ h2
      · exact List.mem_append_left _ h3
    · rcases List.mem_cons.mp h with rfl | h
      · exact List.mem_append_left _ h4
      · exact h
  exact ⟨h5, good_of_word (wsLaw_good w h5)⟩
def wL (o : Nat) (cO : ClassId) (f : Nat → Int64) (A : Nat → Nat) (G : Nat → ClassId) (M : Nat → Nat → Int32) (B : Nat → Nat) (E : Nat → ClassId) (N : Nat → Nat → Int32) : va_W := wM B E N ++ wH o cO f A G M
def tyL (cO : ClassId) (G E : Nat → ClassId) : List (ClassId × FieldType) := tyM E ++ tyH cO G
def lwK (D : va_G) (o : Nat) (cO : ClassId) (A : Nat → Nat) (G : Nat → ClassId) (B : Nat → Nat) (E : Nat → ClassId) (s : State) (f : Nat → Int64) (M N : Nat → Nat → Int32) (H : Heap) (locs : List Loc) : Prop := kb_K D kcl (tyL cO G E) (wL o cO f A G M B E N) s (fun q => s.heap.size ≤ q) H locs
theorem lwK_swap {D : va_G} {o : Nat} {cO : ClassId} {A : Nat → Nat} {G : Nat → ClassId} {B : Nat → Nat} {E : Nat → ClassId} {s : State} {f : Nat → Int64} {M N : Nat → Nat → Int32} {H : Heap} {locs : List Loc} (h : kb_K D kcl (tyL cO G E) (wH o cO f A G M ++ wM B E N) s (fun q => s.heap.size ≤ q) H locs) : lwK D o cO A G B E s f M N H locs :=
  ⟨h.1, h.2.1.sub [18, 19, 20, 21, 22, 23, 24, 25, 26, 27, 28, 29, 30, 31, 0, 1, 2, 3, 4, 5, 6, 7, 8, 9, 10, 11, 12, 13, 14, 15, 16, 17] rfl, h.2.2.1.sub [18, 19, 20, 21, 22, 23, 24, 25, 26, 27, 28, 29, 30, 31, 0, 1, 2, 3, 4, 5, 6, 7, 8, 9, 10, 11, 12, 13, 14, 15, 16, 17] (by decide) rfl, h.2.2.2⟩
/-- the class's call: its answer with code 0, or one of the exceptions ks (in the order of the clauses) with its code -/
def kb_oc (fr : Option (Int32 × (Nat → Nat → Int32))) (xr : Option (Nat × (Nat → Nat → Int32))) (ks : List Nat) (k r : Int32) (M' : Nat → Nat → Int32) : Prop :=
  (fr = some (r, M') ∧ k = 0) ∨ ∃ j x, ks[j]? = some x ∧ xr = some (x, M') ∧ k = nI (j + 1)
theorem lw_in {x4 : Int32} {k L : Nat} (h : x4 = nI k) (hk : k + 4 ≤ L) (hL : L ≤ 2048) : vp_in x4 L ∧ vp_in (x4 + 1) L ∧ vp_in (x4 + 2) L ∧ vp_in (x4 + 3) L := by
  subst h
  have e1 : nI k + 1 = nI (k + 1) := nI_1 k
  have e2 : nI k + 2 = nI (k + 2) := nI_add k 2
  have e3 : nI k + 3 = nI (k + 3) := nI_add k 3
  rw [e1, e2, e3]
  exact ⟨vp_in_nI (by omega) (by omega), vp_in_nI (by omega) (by omega), vp_in_nI (by omega) (by omega), vp_in_nI (by omega) (by omega)⟩
theorem lg_cmp_self (x : Int64) : lg_cmp x x = 0 := by simp [lg_cmp]
def op_piles (Inv : (Nat → Nat → Int32) → (Nat → Nat → Int32) → Prop) : Prop := ∀ (x1 x2 : Int32) (M N : (Nat → Nat → Int32)), Inv M N → ∃ (k r : Int32) (M' : (Nat → Nat → Int32)) (b : Int32) (N' : (Nat → Nat → Int32)), kb_oc (f_P_piles x1 x2 M) (x_P_piles x1 x2 M) [3] k r M' ∧ f_M_piles x1 x2 N = some (b, N') ∧ N' 0 0 = k ∧ (k = 0 → True) ∧ Inv M' N'
set_option maxHeartbeats 4000000 in
set_option maxRecDepth 100000 in
theorem lc_piles {p : Program} {l : Launch} {e : Env} {s : State} {m : MethodId} {below : List Frame} {meth : Method} {c : Code} {D : va_G} {o : Nat} {cO : ClassId} {A : Nat → Nat} {G : Nat → ClassId} {B : Nat → Nat} {E : Nat → ClassId} {b L : Nat} {xs : Nat → Int32} {k0 : Nat} {x4 : Int32} (hL : L ≤ 2048) (hlt : l.stackTraces = false) (C0 : lw_At p s m meth c b L xs) (htt : ∀ w ∈ wsLaw, w.before #[Value.ref b] s = true) (hE : eH (fun q => s.heap.size ≤ q) s) {Inv : (Nat → Nat → Int32) → (Nat → Nat → Int32) → Prop} (hop : op_piles Inv) (hk : k0 + 4 ≤ L) (hx4 : x4 = nI k0)
    {f : Nat → Int64} {M N : (Nat → Nat → Int32)} {H : Heap} {locs : List Loc} {ls : Array Slot} (hI : Inv M N) (hw : lwK D o cO A G B E s f M N H locs) (hl : lv_has ls 7 [(0, .ref b), (1, .ref (A 0)), (2, .ref (B 0)), (3, .ref o), (4, .int x4)])
    (next : ∀ (f : Nat → Int64) (M N : (Nat → Nat → Int32)) (H : Heap) (locs : List Loc) (ls : Array Slot), Inv M N → lwK D o cO A G B E s f M N H locs → lv_has ls 7 [(0, .ref b), (1, .ref (A 0)), (2, .ref (B 0)), (3, .ref o), (4, .int x4)] → W p l e room_1 s m #[Value.ref b] below meth c H locs (33 + k0) (747 + 6 * k0) (lw_Z below #[Value.ref b] s) (F0 m 883 ls [])) : W p l e room_1 s m #[Value.ref b] below meth c H locs (32 + k0) (741 + 6 * k0) (lw_Z below #[Value.ref b] s) (F0 m 108 ls []) := by
  obtain ⟨hx, hb, hr, hml, hown0, hts, hX, hbl, hlocks, hgv⟩ := C0
  have hown : s.vm.findClass "PileLiftsLaw" = some m.cls := hown0
  have hbA : ¬ (fun q : Nat => s.heap.size ≤ q) b := Nat.not_le.mpr hbl
  obtain ⟨hi0, hi1, hi2, hi3⟩ := lw_in hx4 hk hL
  have hth : ∀ w ∈ wsH, w.before #[Value.ref b] s = true := fun w h => htt w (List.mem_append_left _ h)
  have htl : ∀ w ∈ wsL, w.before #[Value.ref b] s = true := fun w h => hth w (List.mem_append_left _ h)
  have htw : ∀ w ∈ wsC, w.before #[Value.ref b] s = true := fun w h => hth w (List.mem_append_right _ (List.mem_append_left _ h))
  have htm : ∀ w ∈ wsM, w.before #[Value.ref b] s = true := fun w h => htt w (List.mem_append_right _ h)
  obtain ⟨k, r, M', b2, N', hoc, hf2, hth0, hrb, hI⟩ := hop (xs (x4 + 1).toNatClampNeg) (xs (x4 + 2).toNatClampNeg) M N hI
  refine lv_aload_n hx hb d_L_law_108 rfl (lv_at hl 1 rfl) ?_
  refine lv_aload_n hx hb d_L_law_109 rfl (lv_at hl 0 rfl) ?_
  refine lv_iload hx hb d_L_law_110 (lv_at hl 4 rfl) ?_
  refine lv_iconst (v := 1) hx hb d_L_law_112 (by decide) ?_
  refine lv_iadd hx hb d_L_law_113 ?_
  refine va_sld hx hb hX hbl hbA hw.2.2.2.1 hi1 d_L_law_114 ?_
  refine lv_aload_n hx hb d_L_law_115 rfl (lv_at hl 0 rfl) ?_
  refine lv_iload hx hb d_L_law_116 (lv_at hl 4 rfl) ?_
  refine lv_iconst (v := 2) hx hb d_L_law_118 (by decide) ?_
  refine lv_iadd hx hb d_L_law_119 ?_
  refine va_sld hx hb hX hbl hbA hw.2.2.2.1 hi2 d_L_law_120 ?_
  have key : ∀ (H : Heap) (locs : List Loc), lwK D o cO A G B E s f M' N H locs → W p l e room_1 s m #[Value.ref b] below meth c H locs (33 + k0) (747 + 6 * k0) (lw_Z below #[Value.ref b] s) (F0 m 124 ls (.int k :: [])) := by
    clear hw
    intro H locs hw
    refine lv_istore (lv' := [(5, .int k), (0, .ref b), (1, .ref (A 0)), (2, .ref (B 0)), (3, .ref o), (4, .int x4)]) hx hb d_L_law_124 hl (by decide) rfl (fun ls hl => ?_)
    refine lv_aload_n hx hb d_L_law_126 rfl (lv_at hl 3 rfl) ?_
    refine lv_aload_n hx hb d_L_law_127 rfl (lv_at hl 1 rfl) ?_
    refine lv_iload hx hb d_L_law_128 (lv_at hl 5 rfl) ?_
    refine lv_iconst (v := 1) hx hb d_L_law_130 (by decide) ?_
    refine lv_iadd hx hb d_L_law_131 ?_
    refine va_sld hx hb hX hbl hbA hw.2.2.2.1 hi1 d_L_law_132 ?_
    refine lv_aload_n hx hb d_L_law_133 rfl (lv_at hl 1 rfl) ?_
    refine lv_iload hx hb d_L_law_134 (lv_at hl 5 rfl) ?_
    refine lv_iconst (v := 2) hx hb d_L_law_136 (by decide) ?_
    refine lv_iadd hx hb d_L_law_137 ?_
    refine va_sld hx hb hX hbl hbA hw.2.2.2.1 hi2 d_L_law_138 ?_
    refine kb_callv (wc := wM B E N) (wr := wH o cO f A G M') (w1 := wM B E N') (ws' := wH o cO f A G M' ++ wM B E N') (va_runV (As := [.int (xs (x4 + 1).toNatClampNeg), .int (xs (x4 + 2).toNatClampNeg)]) (rest := []) ⟨hx, hb, hml, hown, htt⟩ (c_M_piles l D B E (xs (x4 + 1).toNatClampNeg) (xs (x4 + 2).toNatClampNeg) N _ _ H.size hf2) ⟨callB_of 2 htt (wsLaw_M mM_54) rfl rfl rfl (htm _ mM_0) (htl _ mL_63) q_M_piles ⟨by show 1 + 1 ≤ 2048; omega, by show 8 + (4 + 11) + 23 ≤ 84000; omega⟩, htm _ mM_52, htm _ mM_53⟩ (kb_preVh (fun _ _ _ _ h => h) hw [0, 1, 2, 3, 4, 5, 6, 7, 8, 9, 10, 11, 12, 13] [0, 1, 2, 3, 4, 5, 6, 7, 8, 9, 10, 11, 12] rfl rfl (by decide) rfl (fun _ _ _ => trivial) 0 (wM_0 B E _) rfl) rfl rfl hl.1 rfl (lv_room (Nat.le_of_ble_eq_true rfl)) d_L_law_139 ⟨by show _ + 0 ≤ 628987; omega, by show _ + 0 ≤ 7209143; omega⟩) hw [0, 1, 2, 3, 4, 5, 6, 7, 8, 9, 10, 11, 12, 13] [14, 15, 16, 17, 18, 19, 20, 21, 22, 23, 24, 25, 26, 27, 28, 29, 30, 31] rfl rfl (by decide) (by decide) rfl (fun H locs hw => ?_)
    refine W.cs (cells' := 33 + k0) (slots' := 747 + 6 * k0) rfl rfl ?_
    have hw := lwK_swap hw
    refine lv_aload_n hx hb d_L_law_142 rfl (lv_at hl 3 rfl) ?_
    refine kb_calli (wc := wM B E N') (wr := wH o cO f A G M') (w1 := wM B E N') (ws' := wH o cO f A G M' ++ wM B E N') (va_runV (As := []) (rest := []) ⟨hx, hb, hml, hown, htt⟩ (c_M_thrown l D B E N' _ _ H.size (show f_M_thrown N' = some (N' 0 0, N') from rfl)) ⟨callB_of 0 htt (wsLaw_M mM_51) rfl rfl rfl (htm _ mM_0) (htl _ mL_62) q_M_thrown ⟨by show 0 + 1 ≤ 2048; omega, by show 8 + (1 + 11) + 0 ≤ 84000; omega⟩, htm _ mM_49, htm _ mM_50⟩ (kb_preVh (fun _ _ _ _ h => h) hw [0, 1, 2, 3, 4, 5, 6, 7, 8, 9, 10, 11, 12, 13] [0, 1, 2, 3, 4, 5, 6, 7, 8, 9, 10, 11, 12] rfl rfl (by decide) rfl (fun _ _ _ => trivial) 0 (wM_0 B E _) rfl) rfl rfl hl.1 rfl (lv_room (Nat.le_of_ble_eq_true rfl)) d_L_law_143 ⟨by show _ + 0 ≤ 628987; omega, by show _ + 0 ≤ 7209143; omega⟩) hw [0, 1, 2, 3, 4, 5, 6, 7, 8, 9, 10, 11, 12, 13] [14, 15, 16, 17, 18, 19, 20, 21, 22, 23, 24, 25, 26, 27, 28, 29, 30, 31] rfl rfl (by decide) (by decide) rfl (fun H locs hw => ?_)
    refine W.cs (cells' := 33 + k0) (slots' := 747 + 6 * k0) rfl rfl ?_
    have hw := lwK_swap hw
    refine lv_iload hx hb d_L_law_146 (lv_at hl 0 rfl) ?_
    refine lv_icmp_eq (tgt := 153) hx hb d_L_law_148 (by decide) (fun cq => ?_) (fun cq => ?_)
    · refine lv_goto (tgt := 883) hx hb d_L_law_153 (by decide) ?_
      exact next _ _ _ _ _ _ hI hw (lv_sub hl [1, 2, 3, 4, 5] rfl)
    · exact absurd hth0 cq
  rcases hoc with ⟨h, hk0⟩ | ⟨j, x, hj, h, hk0⟩
  · subst hk0
    refine kb_calli (wc := wH o cO f A G M) (wr := wM B E N) (w1 := wH o cO f A G M') (ws' := wL o cO f A G M' B E N) (vx_runSW (As := [.ref (A 0), .int (xs (x4 + 1).toNatClampNeg), .int (xs (x4 + 2).toNatClampNeg)]) (rest := []) ⟨hx, hb, hml, hown, htt⟩ (n_L_piles l D o cO f A G (xs (x4 + 1).toNatClampNeg) (xs (x4 + 2).toNatClampNeg) M r M' H.size h) (vx_cwSW 3 htt (wsLaw_S mL_4 mL_5 mL_0 mL_6) rfl rfl rfl q_L_piles ⟨by show 2 + 1 ≤ 2048; omega, by show 8 + (4 + 11) + 45 ≤ 84000; omega⟩) (kb_preSh nnC_b hw [14, 15, 16, 17, 18, 19, 20, 21, 22, 23, 24, 25, 26, 27, 28, 29, 30, 31] [13, 14, 15, 16, 17, 18, 19, 20, 21, 22, 23, 24, 25, 26] rfl rfl (by decide) rfl (fun U hU hW => nnC_warm s U hW hE.1.1)) rfl rfl hl.1 rfl (lv_room (Nat.le_of_ble_eq_true rfl)) d_L_law_121 ⟨by show _ + 0 ≤ 628987; omega, by show _ + 0 ≤ 7209143; omega⟩) hw [14, 15, 16, 17, 18, 19, 20, 21, 22, 23, 24, 25, 26, 27, 28, 29, 30, 31] [0, 1, 2, 3, 4, 5, 6, 7, 8, 9, 10, 11, 12, 13] rfl rfl (by decide) (by decide) rfl (fun H locs hw => ?_)
    refine W.widen (k := 33 + k0) (n := 747 + 6 * k0) (by omega) (by omega) ?_
    exact key H locs hw
  · match j, hj with
    | 0, hj =>
      cases hj
      refine kb_calli (wc := wH o cO f A G M) (wr := wM B E N) (w1 := wH o cO f A G M') (ws' := wL o cO f A G M' B E N) (vx_runSW (As := [.ref (A 0), .int (xs (x4 + 1).toNatClampNeg), .int (xs (x4 + 2).toNatClampNeg)]) (rest := []) ⟨hx, hb, hml, hown, htt⟩ (t0_L_piles l hlt D o cO f A G (xs (x4 + 1).toNatClampNeg) (xs (x4 + 2).toNatClampNeg) M M' H.size h) (vx_cwSW 3 htt (wsLaw_S mL_4 mL_5 mL_0 mL_6) rfl rfl rfl q_L_piles ⟨by show 9 + 1 ≤ 2048; omega, by show 8 + (4 + 11) + 142 ≤ 84000; omega⟩) (kb_preSh (NN' := eH (va_A (wH o cO f A G M) H.size)) eH_b hw [14, 15, 16, 17, 18, 19, 20, 21, 22, 23, 24, 25, 26, 27, 28, 29, 30, 31] [13, 14, 15, 16, 17, 18, 19, 20, 21, 22, 23, 24, 25, 26] rfl rfl (by decide) rfl (fun U hU hW => ⟨eeC_call hE.1 hW hU hw.2.2.2.1 (va_free hw.2.2.1 hw.2.2.2.1 hw.2.2.2.2 [14, 15, 16, 17, 18, 19, 20, 21, 22, 23, 24, 25, 26, 27, 28, 29, 30, 31] rfl), ncX_al hW.alike hE.2⟩)) rfl rfl hl.1 rfl (lv_room (Nat.le_of_ble_eq_true rfl)) d_L_law_121 ⟨by show _ + 1 ≤ 628987; omega, by show _ + 6 ≤ 7209143; omega⟩) hw [14, 15, 16, 17, 18, 19, 20, 21, 22, 23, 24, 25, 26, 27, 28, 29, 30, 31] [0, 1, 2, 3, 4, 5, 6, 7, 8, 9, 10, 11, 12, 13] rfl rfl (by decide) (by decide) rfl (fun H locs hw => ?_)
      refine W.widen (k := 33 + k0) (n := 747 + 6 * k0) (by omega) (by omega) ?_
      subst hk0
      exact key H locs hw
    | j + 1, hj => simp at hj
def op_put (Inv : (Nat → Nat → Int32) → (Nat → Nat → Int32) → Prop) : Prop := ∀ (x1 x2 x3 : Int32) (M N : (Nat → Nat → Int32)), Inv M N → ∃ (k r : Int32) (M' : (Nat → Nat → Int32)) (b : Int32) (N' : (Nat → Nat → Int32)), kb_oc (f_P_put x1 x2 x3 M) (x_P_put x1 x2 x3 M) [1, 3, 4] k r M' ∧ f_M_put x1 x2 x3 N = some (b, N') ∧ N' 0 0 = k ∧ (k = 0 → r = b) ∧ Inv M' N'
set_option maxHeartbeats 4000000 in
set_option maxRecDepth 100000 in
theorem lc_put {p : Program} {l : Launch} {e : Env} {s : State} {m : MethodId} {below : List Frame} {meth : Method} {c : Code} {D : va_G} {o : Nat} {cO : ClassId} {A : Nat → Nat} {G : Nat → ClassId} {B : Nat → Nat} {E : Nat → ClassId} {b L : Nat} {xs : Nat → Int32} {k0 : Nat} {x4 : Int32} (hL : L ≤ 2048) (hlt : l.stackTraces = false) (C0 : lw_At p s m meth c b L xs) (htt : ∀ w ∈ wsLaw, w.before #[Value.ref b] s = true) (hE : eH (fun q => s.heap.size ≤ q) s) {Inv : (Nat → Nat → Int32) → (Nat → Nat → Int32) → Prop} (hop : op_put Inv) (hk : k0 + 4 ≤ L) (hx4 : x4 = nI k0)
    {f : Nat → Int64} {M N : (Nat → Nat → Int32)} {H : Heap} {locs : List Loc} {ls : Array Slot} (hI : Inv M N) (hw : lwK D o cO A G B E s f M N H locs) (hl : lv_has ls 7 [(0, .ref b), (1, .ref (A 0)), (2, .ref (B 0)), (3, .ref o), (4, .int x4)])
    (next : ∀ (f : Nat → Int64) (M N : (Nat → Nat → Int32)) (H : Heap) (locs : List Loc) (ls : Array Slot), Inv M N → lwK D o cO A G B E s f M N H locs → lv_has ls 7 [(0, .ref b), (1, .ref (A 0)), (2, .ref (B 0)), (3, .ref o), (4, .int x4)] → W p l e room_1 s m #[Value.ref b] below meth c H locs (33 + k0) (747 + 6 * k0) (lw_Z below #[Value.ref b] s) (F0 m 883 ls [])) : W p l e room_1 s m #[Value.ref b] below meth c H locs (32 + k0) (741 + 6 * k0) (lw_Z below #[Value.ref b] s) (F0 m 156 ls []) := by
  obtain ⟨hx, hb, hr, hml, hown0, hts, hX, hbl, hlocks, hgv⟩ := C0
  have hown : s.vm.findClass "PileLiftsLaw" = some m.cls := hown0
  have hbA : ¬ (fun q : Nat => s.heap.size ≤ q) b := Nat.not_le.mpr hbl
  obtain ⟨hi0, hi1, hi2, hi3⟩ := lw_in hx4 hk hL
  have hth : ∀ w ∈ wsH, w.before #[Value.ref b] s = true := fun w h => htt w (List.mem_append_left _ h)
  have htl : ∀ w ∈ wsL, w.before #[Value.ref b] s = true := fun w h => hth w (List.mem_append_left _ h)
  have htw : ∀ w ∈ wsC, w.before #[Value.ref b] s = true := fun w h => hth w (List.mem_append_right _ (List.mem_append_left _ h))
  have htm : ∀ w ∈ wsM, w.before #[Value.ref b] s = true := fun w h => htt w (List.mem_append_right _ h)
  obtain ⟨k, r, M', b2, N', hoc, hf2, hth0, hrb, hI⟩ := hop (xs (x4 + 1).toNatClampNeg) (xs (x4 + 2).toNatClampNeg) (xs (x4 + 3).toNatClampNeg) M N hI
  refine lv_aload_n hx hb d_L_law_156 rfl (lv_at hl 1 rfl) ?_
  refine lv_aload_n hx hb d_L_law_157 rfl (lv_at hl 0 rfl) ?_
  refine lv_iload hx hb d_L_law_158 (lv_at hl 4 rfl) ?_
  refine lv_iconst (v := 1) hx hb d_L_law_160 (by decide) ?_
  refine lv_iadd hx hb d_L_law_161 ?_
  refine va_sld hx hb hX hbl hbA hw.2.2.2.1 hi1 d_L_law_162 ?_
  refine lv_aload_n hx hb d_L_law_163 rfl (lv_at hl 0 rfl) ?_
  refine lv_iload hx hb d_L_law_164 (lv_at hl 4 rfl) ?_
  refine lv_iconst (v := 2) hx hb d_L_law_166 (by decide) ?_
  refine lv_iadd hx hb d_L_law_167 ?_
  refine va_sld hx hb hX hbl hbA hw.2.2.2.1 hi2 d_L_law_168 ?_
  refine lv_aload_n hx hb d_L_law_169 rfl (lv_at hl 0 rfl) ?_
  refine lv_iload hx hb d_L_law_170 (lv_at hl 4 rfl) ?_
  refine lv_iconst (v := 3) hx hb d_L_law_172 (by decide) ?_
  refine lv_iadd hx hb d_L_law_173 ?_
  refine va_sld hx hb hX hbl hbA hw.2.2.2.1 hi3 d_L_law_174 ?_
  refine lv_aload_n hx hb d_L_law_175 rfl (lv_at hl 3 rfl) ?_
  have key : ∀ (H : Heap) (locs : List Loc), lwK D o cO A G B E s (if k = 0 then vp_updL f 0 r.toInt64 else f) M' N H locs → W p l e room_1 s m #[Value.ref b] below meth c H locs (33 + k0) (747 + 6 * k0) (lw_Z below #[Value.ref b] s) (F0 m 179 ls (.int k :: [])) := by
    clear hw
    intro H locs hw
    refine lv_istore (lv' := [(5, .int k), (0, .ref b), (1, .ref (A 0)), (2, .ref (B 0)), (3, .ref o), (4, .int x4)]) hx hb d_L_law_179 hl (by decide) rfl (fun ls hl => ?_)
    refine lv_aload_n hx hb d_L_law_181 rfl (lv_at hl 3 rfl) ?_
    refine lv_aload_n hx hb d_L_law_182 rfl (lv_at hl 1 rfl) ?_
    refine lv_iload hx hb d_L_law_183 (lv_at hl 5 rfl) ?_
    refine lv_iconst (v := 1) hx hb d_L_law_185 (by decide) ?_
    refine lv_iadd hx hb d_L_law_186 ?_
    refine va_sld hx hb hX hbl hbA hw.2.2.2.1 hi1 d_L_law_187 ?_
    refine lv_aload_n hx hb d_L_law_188 rfl (lv_at hl 1 rfl) ?_
    refine lv_iload hx hb d_L_law_189 (lv_at hl 5 rfl) ?_
    refine lv_iconst (v := 2) hx hb d_L_law_191 (by decide) ?_
    refine lv_iadd hx hb d_L_law_192 ?_
    refine va_sld hx hb hX hbl hbA hw.2.2.2.1 hi2 d_L_law_193 ?_
    refine lv_aload_n hx hb d_L_law_194 rfl (lv_at hl 1 rfl) ?_
    refine lv_iload hx hb d_L_law_195 (lv_at hl 5 rfl) ?_
    refine lv_iconst (v := 3) hx hb d_L_law_197 (by decide) ?_
    refine lv_iadd hx hb d_L_law_198 ?_
    refine va_sld hx hb hX hbl hbA hw.2.2.2.1 hi3 d_L_law_199 ?_
    refine kb_calli (wc := wM B E N) (wr := wH o cO (if k = 0 then vp_updL f 0 r.toInt64 else f) A G M') (w1 := wM B E N') (ws' := wH o cO (if k = 0 then vp_updL f 0 r.toInt64 else f) A G M' ++ wM B E N') (va_runV (As := [.int (xs (x4 + 1).toNatClampNeg), .int (xs (x4 + 2).toNatClampNeg), .int (xs (x4 + 3).toNatClampNeg)]) (rest := []) ⟨hx, hb, hml, hown, htt⟩ (c_M_put l D B E (xs (x4 + 1).toNatClampNeg) (xs (x4 + 2).toNatClampNeg) (xs (x4 + 3).toNatClampNeg) N _ _ H.size hf2) ⟨callB_of 3 htt (wsLaw_M mM_66) rfl rfl rfl (htm _ mM_0) (htl _ mL_64) q_M_put ⟨by show 2 + 1 ≤ 2048; omega, by show 8 + (5 + 11) + 46 ≤ 84000; omega⟩, htm _ mM_64, htm _ mM_65⟩ (kb_preVh (fun _ _ _ _ h => h) hw [0, 1, 2, 3, 4, 5, 6, 7, 8, 9, 10, 11, 12, 13] [0, 1, 2, 3, 4, 5, 6, 7, 8, 9, 10, 11, 12] rfl rfl (by decide) rfl (fun _ _ _ => trivial) 0 (wM_0 B E _) rfl) rfl rfl hl.1 rfl (lv_room (Nat.le_of_ble_eq_true rfl)) d_L_law_200 ⟨by show _ + 0 ≤ 628987; omega, by show _ + 0 ≤ 7209143; omega⟩) hw [0, 1, 2, 3, 4, 5, 6, 7, 8, 9, 10, 11, 12, 13] [14, 15, 16, 17, 18, 19, 20, 21, 22, 23, 24, 25, 26, 27, 28, 29, 30, 31] rfl rfl (by decide) (by decide) rfl (fun H locs hw => ?_)
    refine W.cs (cells' := 33 + k0) (slots' := 747 + 6 * k0) rfl rfl ?_
    have hw := lwK_swap hw
    refine lv_istore (lv' := [(6, .int b2), (5, .int k), (0, .ref b), (1, .ref (A 0)), (2, .ref (B 0)), (3, .ref o), (4, .int x4)]) hx hb d_L_law_203 hl (by decide) rfl (fun ls hl => ?_)
    refine lv_aload_n hx hb d_L_law_205 rfl (lv_at hl 4 rfl) ?_
    refine kb_calli (wc := wM B E N') (wr := wH o cO (if k = 0 then vp_updL f 0 r.toInt64 else f) A G M') (w1 := wM B E N') (ws' := wH o cO (if k = 0 then vp_updL f 0 r.toInt64 else f) A G M' ++ wM B E N') (va_runV (As := []) (rest := []) ⟨hx, hb, hml, hown, htt⟩ (c_M_thrown l D B E N' _ _ H.size (show f_M_thrown N' = some (N' 0 0, N') from rfl)) ⟨callB_of 0 htt (wsLaw_M mM_51) rfl rfl rfl (htm _ mM_0) (htl _ mL_62) q_M_thrown ⟨by show 0 + 1 ≤ 2048; omega, by show 8 + (1 + 11) + 0 ≤ 84000; omega⟩, htm _ mM_49, htm _ mM_50⟩ (kb_preVh (fun _ _ _ _ h => h) hw [0, 1, 2, 3, 4, 5, 6, 7, 8, 9, 10, 11, 12, 13] [0, 1, 2, 3, 4, 5, 6, 7, 8, 9, 10, 11, 12] rfl rfl (by decide) rfl (fun _ _ _ => trivial) 0 (wM_0 B E _) rfl) rfl rfl hl.1 rfl (lv_room (Nat.le_of_ble_eq_true rfl)) d_L_law_206 ⟨by show _ + 0 ≤ 628987; omega, by show _ + 0 ≤ 7209143; omega⟩) hw [0, 1, 2, 3, 4, 5, 6, 7, 8, 9, 10, 11, 12, 13] [14, 15, 16, 17, 18, 19, 20, 21, 22, 23, 24, 25, 26, 27, 28, 29, 30, 31] rfl rfl (by decide) (by decide) rfl (fun H locs hw => ?_)
    refine W.cs (cells' := 33 + k0) (slots' := 747 + 6 * k0) rfl rfl ?_
    have hw := lwK_swap hw
    refine lv_iload hx hb d_L_law_209 (lv_at hl 1 rfl) ?_
    refine lv_icmp_eq (tgt := 216) hx hb d_L_law_211 (by decide) (fun cq => ?_) (fun cq => ?_)
    · refine lv_iload hx hb d_L_law_216 (lv_at hl 1 rfl) ?_
      refine lv_if_ne (tgt := 233) hx hb d_L_law_218 (by decide) (fun ck => ?_) (fun ck => ?_)
      · refine lv_goto (tgt := 883) hx hb d_L_law_233 (by decide) ?_
        exact next _ _ _ _ _ _ hI hw (lv_sub hl [2, 3, 4, 5, 6] rfl)
      · refine lv_aload_n hx hb d_L_law_221 rfl (lv_at hl 5 rfl) ?_
        refine lv_iconst (v := 0) hx hb d_L_law_222 (by decide) ?_
        refine va_lald hx hb hw.1 hw.2.1 14 13 rfl rfl (show ¬ ((0 : Int32) < 0 ∨ 1 ≤ (0 : Int32).toNatClampNeg) by decide) d_L_law_223 ?_
        refine lv_iload hx hb d_L_law_224 (lv_at hl 0 rfl) ?_
        refine lv_i2l (v := b2.toInt64) hx hb d_L_law_226 rfl ?_
        refine W.lcmp hx hb d_L_law_227 ?_
        refine lv_if_eq (tgt := 233) hx hb d_L_law_228 (by decide) (fun cq => ?_) (fun cq => ?_)
        · refine lv_goto (tgt := 883) hx hb d_L_law_233 (by decide) ?_
          exact next _ _ _ _ _ _ hI hw (lv_sub hl [2, 3, 4, 5, 6] rfl)
        · exact absurd (by rw [show (if k = 0 then vp_updL f 0 r.toInt64 else f) (Int32.toNatClampNeg 0) = r.toInt64 from by rw [if_pos ck]; rfl, hrb ck]; exact lg_cmp_self _) cq
    · exact absurd hth0 cq
  rcases hoc with ⟨h, hk0⟩ | ⟨j, x, hj, h, hk0⟩
  · subst hk0
    refine kb_calli (wc := wH o cO f A G M) (wr := wM B E N) (w1 := wH o cO (vp_updL f 0 r.toInt64) A G M') (ws' := wL o cO (vp_updL f 0 r.toInt64) A G M' B E N) (vx_runSW (As := [.ref (A 0), .int (xs (x4 + 1).toNatClampNeg), .int (xs (x4 + 2).toNatClampNeg), .int (xs (x4 + 3).toNatClampNeg), .ref o]) (rest := []) ⟨hx, hb, hml, hown, htt⟩ (n_L_put l D o cO f A G (xs (x4 + 1).toNatClampNeg) (xs (x4 + 2).toNatClampNeg) (xs (x4 + 3).toNatClampNeg) M r M' H.size h) (vx_cwSW 5 htt (wsLaw_S mL_9 mL_10 mL_0 mL_11) rfl rfl rfl q_L_put ⟨by show 4 + 1 ≤ 2048; omega, by show 8 + (6 + 11) + 89 ≤ 84000; omega⟩) (kb_preSh nnC_b hw [14, 15, 16, 17, 18, 19, 20, 21, 22, 23, 24, 25, 26, 27, 28, 29, 30, 31] [13, 14, 15, 16, 17, 18, 19, 20, 21, 22, 23, 24, 25, 26] rfl rfl (by decide) rfl (fun U hU hW => nnC_warm s U hW hE.1.1)) rfl rfl hl.1 rfl (lv_room (Nat.le_of_ble_eq_true rfl)) d_L_law_176 ⟨by show _ + 0 ≤ 628987; omega, by show _ + 0 ≤ 7209143; omega⟩) hw [14, 15, 16, 17, 18, 19, 20, 21, 22, 23, 24, 25, 26, 27, 28, 29, 30, 31] [0, 1, 2, 3, 4, 5, 6, 7, 8, 9, 10, 11, 12, 13] rfl rfl (by decide) (by decide) rfl (fun H locs hw => ?_)
    refine W.widen (k := 33 + k0) (n := 747 + 6 * k0) (by omega) (by omega) ?_
    exact key H locs hw
  · match j, hj with
    | 0, hj =>
      cases hj
      refine kb_calli (wc := wH o cO f A G M) (wr := wM B E N) (w1 := wH o cO f A G M') (ws' := wL o cO f A G M' B E N) (vx_runSW (As := [.ref (A 0), .int (xs (x4 + 1).toNatClampNeg), .int (xs (x4 + 2).toNatClampNeg), .int (xs (x4 + 3).toNatClampNeg), .ref o]) (rest := []) ⟨hx, hb, hml, hown, htt⟩ (t0_L_put l hlt D o cO f A G (xs (x4 + 1).toNatClampNeg) (xs (x4 + 2).toNatClampNeg) (xs (x4 + 3).toNatClampNeg) M M' H.size h) (vx_cwSW 5 htt (wsLaw_S mL_9 mL_10 mL_0 mL_11) rfl rfl rfl q_L_put ⟨by show 9 + 1 ≤ 2048; omega, by show 8 + (6 + 11) + 143 ≤ 84000; omega⟩) (kb_preSh (NN' := eH (va_A (wH o cO f A G M) H.size)) eH_b hw [14, 15, 16, 17, 18, 19, 20, 21, 22, 23, 24, 25, 26, 27, 28, 29, 30, 31] [13, 14, 15, 16, 17, 18, 19, 20, 21, 22, 23, 24, 25, 26] rfl rfl (by decide) rfl (fun U hU hW => ⟨eeC_call hE.1 hW hU hw.2.2.2.1 (va_free hw.2.2.1 hw.2.2.2.1 hw.2.2.2.2 [14, 15, 16, 17, 18, 19, 20, 21, 22, 23, 24, 25, 26, 27, 28, 29, 30, 31] rfl), ncX_al hW.alike hE.2⟩)) rfl rfl hl.1 rfl (lv_room (Nat.le_of_ble_eq_true rfl)) d_L_law_176 ⟨by show _ + 1 ≤ 628987; omega, by show _ + 6 ≤ 7209143; omega⟩) hw [14, 15, 16, 17, 18, 19, 20, 21, 22, 23, 24, 25, 26, 27, 28, 29, 30, 31] [0, 1, 2, 3, 4, 5, 6, 7, 8, 9, 10, 11, 12, 13] rfl rfl (by decide) (by decide) rfl (fun H locs hw => ?_)
      refine W.widen (k := 33 + k0) (n := 747 + 6 * k0) (by omega) (by omega) ?_
      subst hk0
      exact key H locs hw
    | 1, hj =>
      cases hj
      refine kb_calli (wc := wH o cO f A G M) (wr := wM B E N) (w1 := wH o cO f A G M') (ws' := wL o cO f A G M' B E N) (vx_runSW (As := [.ref (A 0), .int (xs (x4 + 1).toNatClampNeg), .int (xs (x4 + 2).toNatClampNeg), .int (xs (x4 + 3).toNatClampNeg), .ref o]) (rest := []) ⟨hx, hb, hml, hown, htt⟩ (t1_L_put l hlt D o cO f A G (xs (x4 + 1).toNatClampNeg) (xs (x4 + 2).toNatClampNeg) (xs (x4 + 3).toNatClampNeg) M M' H.size h) (vx_cwSW 5 htt (wsLaw_S mL_9 mL_10 mL_0 mL_11) rfl rfl rfl q_L_put ⟨by show 9 + 1 ≤ 2048; omega, by show 8 + (6 + 11) + 143 ≤ 84000; omega⟩) (kb_preSh (NN' := eH (va_A (wH o cO f A G M) H.size)) eH_b hw [14, 15, 16, 17, 18, 19, 20, 21, 22, 23, 24, 25, 26, 27, 28, 29, 30, 31] [13, 14, 15, 16, 17, 18, 19, 20, 21, 22, 23, 24, 25, 26] rfl rfl (by decide) rfl (fun U hU hW => ⟨eeC_call hE.1 hW hU hw.2.2.2.1 (va_free hw.2.2.1 hw.2.2.2.1 hw.2.2.2.2 [14, 15, 16, 17, 18, 19, 20, 21, 22, 23, 24, 25, 26, 27, 28, 29, 30, 31] rfl), ncX_al hW.alike hE.2⟩)) rfl rfl hl.1 rfl (lv_room (Nat.le_of_ble_eq_true rfl)) d_L_law_176 ⟨by show _ + 1 ≤ 628987; omega, by show _ + 6 ≤ 7209143; omega⟩) hw [14, 15, 16, 17, 18, 19, 20, 21, 22, 23, 24, 25, 26, 27, 28, 29, 30, 31] [0, 1, 2, 3, 4, 5, 6, 7, 8, 9, 10, 11, 12, 13] rfl rfl (by decide) (by decide) rfl (fun H locs hw => ?_)
      refine W.widen (k := 33 + k0) (n := 747 + 6 * k0) (by omega) (by omega) ?_
      subst hk0
      exact key H locs hw
    | 2, hj =>
      cases hj
      refine kb_calli (wc := wH o cO f A G M) (wr := wM B E N) (w1 := wH o cO f A G M') (ws' := wL o cO f A G M' B E N) (vx_runSW (As := [.ref (A 0), .int (xs (x4 + 1).toNatClampNeg), .int (xs (x4 + 2).toNatClampNeg), .int (xs (x4 + 3).toNatClampNeg), .ref o]) (rest := []) ⟨hx, hb, hml, hown, htt⟩ (t2_L_put l hlt D o cO f A G (xs (x4 + 1).toNatClampNeg) (xs (x4 + 2).toNatClampNeg) (xs (x4 + 3).toNatClampNeg) M M' H.size h) (vx_cwSW 5 htt (wsLaw_S mL_9 mL_10 mL_0 mL_11) rfl rfl rfl q_L_put ⟨by show 9 + 1 ≤ 2048; omega, by show 8 + (6 + 11) + 143 ≤ 84000; omega⟩) (kb_preSh (NN' := eH (va_A (wH o cO f A G M) H.size)) eH_b hw [14, 15, 16, 17, 18, 19, 20, 21, 22, 23, 24, 25, 26, 27, 28, 29, 30, 31] [13, 14, 15, 16, 17, 18, 19, 20, 21, 22, 23, 24, 25, 26] rfl rfl (by decide) rfl (fun U hU hW => ⟨eeC_call hE.1 hW hU hw.2.2.2.1 (va_free hw.2.2.1 hw.2.2.2.1 hw.2.2.2.2 [14, 15, 16, 17, 18, 19, 20, 21, 22, 23, 24, 25, 26, 27, 28, 29, 30, 31] rfl), ncX_al hW.alike hE.2⟩)) rfl rfl hl.1 rfl (lv_room (Nat.le_of_ble_eq_true rfl)) d_L_law_176 ⟨by show _ + 1 ≤ 628987; omega, by show _ + 6 ≤ 7209143; omega⟩) hw [14, 15, 16, 17, 18, 19, 20, 21, 22, 23, 24, 25, 26, 27, 28, 29, 30, 31] [0, 1, 2, 3, 4, 5, 6, 7, 8, 9, 10, 11, 12, 13] rfl rfl (by decide) (by decide) rfl (fun H locs hw => ?_)
      refine W.widen (k := 33 + k0) (n := 747 + 6 * k0) (by omega) (by omega) ?_
      subst hk0
      exact key H locs hw
    | j + 3, hj => simp at hj
def op_want (Inv : (Nat → Nat → Int32) → (Nat → Nat → Int32) → Prop) : Prop := ∀ (x1 x2 : Int32) (M N : (Nat → Nat → Int32)), Inv M N → ∃ (k r : Int32) (M' : (Nat → Nat → Int32)) (b : Int32) (N' : (Nat → Nat → Int32)), kb_oc (f_P_want x1 x2 M) (x_P_want x1 x2 M) [1, 2, 3] k r M' ∧ f_M_want x1 x2 N = some (b, N') ∧ N' 0 0 = k ∧ (k = 0 → True) ∧ Inv M' N'
set_option maxHeartbeats 4000000 in
set_option maxRecDepth 100000 in
theorem lc_want {p : Program} {l : Launch} {e : Env} {s : State} {m : MethodId} {below : List Frame} {meth : Method} {c : Code} {D : va_G} {o : Nat} {cO : ClassId} {A : Nat → Nat} {G : Nat → ClassId} {B : Nat → Nat} {E : Nat → ClassId} {b L : Nat} {xs : Nat → Int32} {k0 : Nat} {x4 : Int32} (hL : L ≤ 2048) (hlt : l.stackTraces = false) (C0 : lw_At p s m meth c b L xs) (htt : ∀ w ∈ wsLaw, w.before #[Value.ref b] s = true) (hE : eH (fun q => s.heap.size ≤ q) s) {Inv : (Nat → Nat → Int32) → (Nat → Nat → Int32) → Prop} (hop : op_want Inv) (hk : k0 + 4 ≤ L) (hx4 : x4 = nI k0)
    {f : Nat → Int64} {M N : (Nat → Nat → Int32)} {H : Heap} {locs : List Loc} {ls : Array Slot} (hI : Inv M N) (hw : lwK D o cO A G B E s f M N H locs) (hl : lv_has ls 7 [(0, .ref b), (1, .ref (A 0)), (2, .ref (B 0)), (3, .ref o), (4, .int x4)])
    (next : ∀ (f : Nat → Int64) (M N : (Nat → Nat → Int32)) (H : Heap) (locs : List Loc) (ls : Array Slot), Inv M N → lwK D o cO A G B E s f M N H locs → lv_has ls 7 [(0, .ref b), (1, .ref (A 0)), (2, .ref (B 0)), (3, .ref o), (4, .int x4)] → W p l e room_1 s m #[Value.ref b] below meth c H locs (33 + k0) (747 + 6 * k0) (lw_Z below #[Value.ref b] s) (F0 m 883 ls [])) : W p l e room_1 s m #[Value.ref b] below meth c H locs (32 + k0) (741 + 6 * k0) (lw_Z below #[Value.ref b] s) (F0 m 236 ls []) := by
  obtain ⟨hx, hb, hr, hml, hown0, hts, hX, hbl, hlocks, hgv⟩ := C0
  have hown : s.vm.findClass "PileLiftsLaw" = some m.cls := hown0
  have hbA : ¬ (fun q : Nat => s.heap.size ≤ q) b := Nat.not_le.mpr hbl
  obtain ⟨hi0, hi1, hi2, hi3⟩ := lw_in hx4 hk hL
  have hth : ∀ w ∈ wsH, w.before #[Value.ref b] s = true := fun w h => htt w (List.mem_append_left _ h)
  have htl : ∀ w ∈ wsL, w.before #[Value.ref b] s = true := fun w h => hth w (List.mem_append_left _ h)
  have htw : ∀ w ∈ wsC, w.before #[Value.ref b] s = true := fun w h => hth w (List.mem_append_right _ (List.mem_append_left _ h))
  have htm : ∀ w ∈ wsM, w.before #[Value.ref b] s = true := fun w h => htt w (List.mem_append_right _ h)
  obtain ⟨k, r, M', b2, N', hoc, hf2, hth0, hrb, hI⟩ := hop (xs (x4 + 1).toNatClampNeg) (xs (x4 + 2).toNatClampNeg) M N hI
  refine lv_aload_n hx hb d_L_law_236 rfl (lv_at hl 1 rfl) ?_
  refine lv_aload_n hx hb d_L_law_237 rfl (lv_at hl 0 rfl) ?_
  refine lv_iload hx hb d_L_law_238 (lv_at hl 4 rfl) ?_
  refine lv_iconst (v := 1) hx hb d_L_law_240 (by decide) ?_
  refine lv_iadd hx hb d_L_law_241 ?_
  refine va_sld hx hb hX hbl hbA hw.2.2.2.1 hi1 d_L_law_242 ?_
  refine lv_aload_n hx hb d_L_law_243 rfl (lv_at hl 0 rfl) ?_
  refine lv_iload hx hb d_L_law_244 (lv_at hl 4 rfl) ?_
  refine lv_iconst (v := 2) hx hb d_L_law_246 (by decide) ?_
  refine lv_iadd hx hb d_L_law_247 ?_
  refine va_sld hx hb hX hbl hbA hw.2.2.2.1 hi2 d_L_law_248 ?_
  have key : ∀ (H : Heap) (locs : List Loc), lwK D o cO A G B E s f M' N H locs → W p l e room_1 s m #[Value.ref b] below meth c H locs (33 + k0) (747 + 6 * k0) (lw_Z below #[Value.ref b] s) (F0 m 252 ls (.int k :: [])) := by
    clear hw
    intro H locs hw
    refine lv_istore (lv' := [(5, .int k), (0, .ref b), (1, .ref (A 0)), (2, .ref (B 0)), (3, .ref o), (4, .int x4)]) hx hb d_L_law_252 hl (by decide) rfl (fun ls hl => ?_)
    refine lv_aload_n hx hb d_L_law_254 rfl (lv_at hl 3 rfl) ?_
    refine lv_aload_n hx hb d_L_law_255 rfl (lv_at hl 1 rfl) ?_
    refine lv_iload hx hb d_L_law_256 (lv_at hl 5 rfl) ?_
    refine lv_iconst (v := 1) hx hb d_L_law_258 (by decide) ?_
    refine lv_iadd hx hb d_L_law_259 ?_
    refine va_sld hx hb hX hbl hbA hw.2.2.2.1 hi1 d_L_law_260 ?_
    refine lv_aload_n hx hb d_L_law_261 rfl (lv_at hl 1 rfl) ?_
    refine lv_iload hx hb d_L_law_262 (lv_at hl 5 rfl) ?_
    refine lv_iconst (v := 2) hx hb d_L_law_264 (by decide) ?_
    refine lv_iadd hx hb d_L_law_265 ?_
    refine va_sld hx hb hX hbl hbA hw.2.2.2.1 hi2 d_L_law_266 ?_
    refine kb_callv (wc := wM B E N) (wr := wH o cO f A G M') (w1 := wM B E N') (ws' := wH o cO f A G M' ++ wM B E N') (va_runV (As := [.int (xs (x4 + 1).toNatClampNeg), .int (xs (x4 + 2).toNatClampNeg)]) (rest := []) ⟨hx, hb, hml, hown, htt⟩ (c_M_want l D B E (xs (x4 + 1).toNatClampNeg) (xs (x4 + 2).toNatClampNeg) N _ _ H.size hf2) ⟨callB_of 2 htt (wsLaw_M mM_75) rfl rfl rfl (htm _ mM_0) (htl _ mL_65) q_M_want ⟨by show 2 + 1 ≤ 2048; omega, by show 8 + (3 + 11) + 43 ≤ 84000; omega⟩, htm _ mM_73, htm _ mM_74⟩ (kb_preVh (fun _ _ _ _ h => h) hw [0, 1, 2, 3, 4, 5, 6, 7, 8, 9, 10, 11, 12, 13] [0, 1, 2, 3, 4, 5, 6, 7, 8, 9, 10, 11, 12] rfl rfl (by decide) rfl (fun _ _ _ => trivial) 0 (wM_0 B E _) rfl) rfl rfl hl.1 rfl (lv_room (Nat.le_of_ble_eq_true rfl)) d_L_law_267 ⟨by show _ + 0 ≤ 628987; omega, by show _ + 0 ≤ 7209143; omega⟩) hw [0, 1, 2, 3, 4, 5, 6, 7, 8, 9, 10, 11, 12, 13] [14, 15, 16, 17, 18, 19, 20, 21, 22, 23, 24, 25, 26, 27, 28, 29, 30, 31] rfl rfl (by decide) (by decide) rfl (fun H locs hw => ?_)
    refine W.cs (cells' := 33 + k0) (slots' := 747 + 6 * k0) rfl rfl ?_
    have hw := lwK_swap hw
    refine lv_aload_n hx hb d_L_law_270 rfl (lv_at hl 3 rfl) ?_
    refine kb_calli (wc := wM B E N') (wr := wH o cO f A G M') (w1 := wM B E N') (ws' := wH o cO f A G M' ++ wM B E N') (va_runV (As := []) (rest := []) ⟨hx, hb, hml, hown, htt⟩ (c_M_thrown l D B E N' _ _ H.size (show f_M_thrown N' = some (N' 0 0, N') from rfl)) ⟨callB_of 0 htt (wsLaw_M mM_51) rfl rfl rfl (htm _ mM_0) (htl _ mL_62) q_M_thrown ⟨by show 0 + 1 ≤ 2048; omega, by show 8 + (1 + 11) + 0 ≤ 84000; omega⟩, htm _ mM_49, htm _ mM_50⟩ (kb_preVh (fun _ _ _ _ h => h) hw [0, 1, 2, 3, 4, 5, 6, 7, 8, 9, 10, 11, 12, 13] [0, 1, 2, 3, 4, 5, 6, 7, 8, 9, 10, 11, 12] rfl rfl (by decide) rfl (fun _ _ _ => trivial) 0 (wM_0 B E _) rfl) rfl rfl hl.1 rfl (lv_room (Nat.le_of_ble_eq_true rfl)) d_L_law_271 ⟨by show _ + 0 ≤ 628987; omega, by show _ + 0 ≤ 7209143; omega⟩) hw [0, 1, 2, 3, 4, 5, 6, 7, 8, 9, 10, 11, 12, 13] [14, 15, 16, 17, 18, 19, 20, 21, 22, 23, 24, 25, 26, 27, 28, 29, 30, 31] rfl rfl (by decide) (by decide) rfl (fun H locs hw => ?_)
    refine W.cs (cells' := 33 + k0) (slots' := 747 + 6 * k0) rfl rfl ?_
    have hw := lwK_swap hw
    refine lv_iload hx hb d_L_law_274 (lv_at hl 0 rfl) ?_
    refine lv_icmp_eq (tgt := 281) hx hb d_L_law_276 (by decide) (fun cq => ?_) (fun cq => ?_)
    · refine lv_goto (tgt := 883) hx hb d_L_law_281 (by decide) ?_
      exact next _ _ _ _ _ _ hI hw (lv_sub hl [1, 2, 3, 4, 5] rfl)
    · exact absurd hth0 cq
  rcases hoc with ⟨h, hk0⟩ | ⟨j, x, hj, h, hk0⟩
  · subst hk0
    refine kb_calli (wc := wH o cO f A G M) (wr := wM B E N) (w1 := wH o cO f A G M') (ws' := wL o cO f A G M' B E N) (vx_runSW (As := [.ref (A 0), .int (xs (x4 + 1).toNatClampNeg), .int (xs (x4 + 2).toNatClampNeg)]) (rest := []) ⟨hx, hb, hml, hown, htt⟩ (n_L_want l D o cO f A G (xs (x4 + 1).toNatClampNeg) (xs (x4 + 2).toNatClampNeg) M r M' H.size h) (vx_cwSW 3 htt (wsLaw_S mL_15 mL_16 mL_0 mL_17) rfl rfl rfl q_L_want ⟨by show 4 + 1 ≤ 2048; omega, by show 8 + (4 + 11) + 86 ≤ 84000; omega⟩) (kb_preSh nnC_b hw [14, 15, 16, 17, 18, 19, 20, 21, 22, 23, 24, 25, 26, 27, 28, 29, 30, 31] [13, 14, 15, 16, 17, 18, 19, 20, 21, 22, 23, 24, 25, 26] rfl rfl (by decide) rfl (fun U hU hW => nnC_warm s U hW hE.1.1)) rfl rfl hl.1 rfl (lv_room (Nat.le_of_ble_eq_true rfl)) d_L_law_249 ⟨by show _ + 0 ≤ 628987; omega, by show _ + 0 ≤ 7209143; omega⟩) hw [14, 15, 16, 17, 18, 19, 20, 21, 22, 23, 24, 25, 26, 27, 28, 29, 30, 31] [0, 1, 2, 3, 4, 5, 6, 7, 8, 9, 10, 11, 12, 13] rfl rfl (by decide) (by decide) rfl (fun H locs hw => ?_)
    refine W.widen (k := 33 + k0) (n := 747 + 6 * k0) (by omega) (by omega) ?_
    exact key H locs hw
  · match j, hj with
    | 0, hj =>
      cases hj
      refine kb_calli (wc := wH o cO f A G M) (wr := wM B E N) (w1 := wH o cO f A G M') (ws' := wL o cO f A G M' B E N) (vx_runSW (As := [.ref (A 0), .int (xs (x4 + 1).toNatClampNeg), .int (xs (x4 + 2).toNatClampNeg)]) (rest := []) ⟨hx, hb, hml, hown, htt⟩ (t0_L_want l hlt D o cO f A G (xs (x4 + 1).toNatClampNeg) (xs (x4 + 2).toNatClampNeg) M M' H.size h) (vx_cwSW 3 htt (wsLaw_S mL_15 mL_16 mL_0 mL_17) rfl rfl rfl q_L_want ⟨by show 10 + 1 ≤ 2048; omega, by show 8 + (4 + 11) + 163 ≤ 84000; omega⟩) (kb_preSh (NN' := eH (va_A (wH o cO f A G M) H.size)) eH_b hw [14, 15, 16, 17, 18, 19, 20, 21, 22, 23, 24, 25, 26, 27, 28, 29, 30, 31] [13, 14, 15, 16, 17, 18, 19, 20, 21, 22, 23, 24, 25, 26] rfl rfl (by decide) rfl (fun U hU hW => ⟨eeC_call hE.1 hW hU hw.2.2.2.1 (va_free hw.2.2.1 hw.2.2.2.1 hw.2.2.2.2 [14, 15, 16, 17, 18, 19, 20, 21, 22, 23, 24, 25, 26, 27, 28, 29, 30, 31] rfl), ncX_al hW.alike hE.2⟩)) rfl rfl hl.1 rfl (lv_room (Nat.le_of_ble_eq_true rfl)) d_L_law_249 ⟨by show _ + 1 ≤ 628987; omega, by show _ + 6 ≤ 7209143; omega⟩) hw [14, 15, 16, 17, 18, 19, 20, 21, 22, 23, 24, 25, 26, 27, 28, 29, 30, 31] [0, 1, 2, 3, 4, 5, 6, 7, 8, 9, 10, 11, 12, 13] rfl rfl (by decide) (by decide) rfl (fun H locs hw => ?_)
      refine W.widen (k := 33 + k0) (n := 747 + 6 * k0) (by omega) (by omega) ?_
      subst hk0
      exact key H locs hw
    | 1, hj =>
      cases hj
      refine kb_calli (wc := wH o cO f A G M) (wr := wM B E N) (w1 := wH o cO f A G M') (ws' := wL o cO f A G M' B E N) (vx_runSW (As := [.ref (A 0), .int (xs (x4 + 1).toNatClampNeg), .int (xs (x4 + 2).toNatClampNeg)]) (rest := []) ⟨hx, hb, hml, hown, htt⟩ (t1_L_want l hlt D o cO f A G (xs (x4 + 1).toNatClampNeg) (xs (x4 + 2).toNatClampNeg) M M' H.size h) (vx_cwSW 3 htt (wsLaw_S mL_15 mL_16 mL_0 mL_17) rfl rfl rfl q_L_want ⟨by show 10 + 1 ≤ 2048; omega, by show 8 + (4 + 11) + 163 ≤ 84000; omega⟩) (kb_preSh (NN' := eH (va_A (wH o cO f A G M) H.size)) eH_b hw [14, 15, 16, 17, 18, 19, 20, 21, 22, 23, 24, 25, 26, 27, 28, 29, 30, 31] [13, 14, 15, 16, 17, 18, 19, 20, 21, 22, 23, 24, 25, 26] rfl rfl (by decide) rfl (fun U hU hW => ⟨eeC_call hE.1 hW hU hw.2.2.2.1 (va_free hw.2.2.1 hw.2.2.2.1 hw.2.2.2.2 [14, 15, 16, 17, 18, 19, 20, 21, 22, 23, 24, 25, 26, 27, 28, 29, 30, 31] rfl), ncX_al hW.alike hE.2⟩)) rfl rfl hl.1 rfl (lv_room (Nat.le_of_ble_eq_true rfl)) d_L_law_249 ⟨by show _ + 1 ≤ 628987; omega, by show _ + 6 ≤ 7209143; omega⟩) hw [14, 15, 16, 17, 18, 19, 20, 21, 22, 23, 24, 25, 26, 27, 28, 29, 30, 31] [0, 1, 2, 3, 4, 5, 6, 7, 8, 9, 10, 11, 12, 13] rfl rfl (by decide) (by decide) rfl (fun H locs hw => ?_)
      refine W.widen (k := 33 + k0) (n := 747 + 6 * k0) (by omega) (by omega) ?_
      subst hk0
      exact key H locs hw
    | 2, hj =>
      cases hj
      refine kb_calli (wc := wH o cO f A G M) (wr := wM B E N) (w1 := wH o cO f A G M') (ws' := wL o cO f A G M' B E N) (vx_runSW (As := [.ref (A 0), .int (xs (x4 + 1).toNatClampNeg), .int (xs (x4 + 2).toNatClampNeg)]) (rest := []) ⟨hx, hb, hml, hown, htt⟩ (t2_L_want l hlt D o cO f A G (xs (x4 + 1).toNatClampNeg) (xs (x4 + 2).toNatClampNeg) M M' H.size h) (vx_cwSW 3 htt (wsLaw_S mL_15 mL_16 mL_0 mL_17) rfl rfl rfl q_L_want ⟨by show 10 + 1 ≤ 2048; omega, by show 8 + (4 + 11) + 163 ≤ 84000; omega⟩) (kb_preSh (NN' := eH (va_A (wH o cO f A G M) H.size)) eH_b hw [14, 15, 16, 17, 18, 19, 20, 21, 22, 23, 24, 25, 26, 27, 28, 29, 30, 31] [13, 14, 15, 16, 17, 18, 19, 20, 21, 22, 23, 24, 25, 26] rfl rfl (by decide) rfl (fun U hU hW => ⟨eeC_call hE.1 hW hU hw.2.2.2.1 (va_free hw.2.2.1 hw.2.2.2.1 hw.2.2.2.2 [14, 15, 16, 17, 18, 19, 20, 21, 22, 23, 24, 25, 26, 27, 28, 29, 30, 31] rfl), ncX_al hW.alike hE.2⟩)) rfl rfl hl.1 rfl (lv_room (Nat.le_of_ble_eq_true rfl)) d_L_law_249 ⟨by show _ + 1 ≤ 628987; omega, by show _ + 6 ≤ 7209143; omega⟩) hw [14, 15, 16, 17, 18, 19, 20, 21, 22, 23, 24, 25, 26, 27, 28, 29, 30, 31] [0, 1, 2, 3, 4, 5, 6, 7, 8, 9, 10, 11, 12, 13] rfl rfl (by decide) (by decide) rfl (fun H locs hw => ?_)
      refine W.widen (k := 33 + k0) (n := 747 + 6 * k0) (by omega) (by omega) ?_
      subst hk0
      exact key H locs hw
    | j + 3, hj => simp at hj
def op_may (Inv : (Nat → Nat → Int32) → (Nat → Nat → Int32) → Prop) : Prop := ∀ (x1 x2 : Int32) (M N : (Nat → Nat → Int32)), Inv M N → ∃ (k r : Int32) (M' : (Nat → Nat → Int32)) (b : Int32) (N' : (Nat → Nat → Int32)), kb_oc (f_P_may x1 x2 M) (x_P_may x1 x2 M) [1] k r M' ∧ f_M_may x1 x2 N = some (b, N') ∧ N' 0 0 = k ∧ (k = 0 → r = b) ∧ Inv M' N'
set_option maxHeartbeats 4000000 in
set_option maxRecDepth 100000 in
theorem lc_may {p : Program} {l : Launch} {e : Env} {s : State} {m : MethodId} {below : List Frame} {meth : Method} {c : Code} {D : va_G} {o : Nat} {cO : ClassId} {A : Nat → Nat} {G : Nat → ClassId} {B : Nat → Nat} {E : Nat → ClassId} {b L : Nat} {xs : Nat → Int32} {k0 : Nat} {x4 : Int32} (hL : L ≤ 2048) (hlt : l.stackTraces = false) (C0 : lw_At p s m meth c b L xs) (htt : ∀ w ∈ wsLaw, w.before #[Value.ref b] s = true) (hE : eH (fun q => s.heap.size ≤ q) s) {Inv : (Nat → Nat → Int32) → (Nat → Nat → Int32) → Prop} (hop : op_may Inv) (hk : k0 + 4 ≤ L) (hx4 : x4 = nI k0)
    {f : Nat → Int64} {M N : (Nat → Nat → Int32)} {H : Heap} {locs : List Loc} {ls : Array Slot} (hI : Inv M N) (hw : lwK D o cO A G B E s f M N H locs) (hl : lv_has ls 7 [(0, .ref b), (1, .ref (A 0)), (2, .ref (B 0)), (3, .ref o), (4, .int x4)])
    (next : ∀ (f : Nat → Int64) (M N : (Nat → Nat → Int32)) (H : Heap) (locs : List Loc) (ls : Array Slot), Inv M N → lwK D o cO A G B E s f M N H locs → lv_has ls 7 [(0, .ref b), (1, .ref (A 0)), (2, .ref (B 0)), (3, .ref o), (4, .int x4)] → W p l e room_1 s m #[Value.ref b] below meth c H locs (33 + k0) (747 + 6 * k0) (lw_Z below #[Value.ref b] s) (F0 m 883 ls [])) : W p l e room_1 s m #[Value.ref b] below meth c H locs (32 + k0) (741 + 6 * k0) (lw_Z below #[Value.ref b] s) (F0 m 284 ls []) := by
  obtain ⟨hx, hb, hr, hml, hown0, hts, hX, hbl, hlocks, hgv⟩ := C0
  have hown : s.vm.findClass "PileLiftsLaw" = some m.cls := hown0
  have hbA : ¬ (fun q : Nat => s.heap.size ≤ q) b := Nat.not_le.mpr hbl
  obtain ⟨hi0, hi1, hi2, hi3⟩ := lw_in hx4 hk hL
  have hth : ∀ w ∈ wsH, w.before #[Value.ref b] s = true := fun w h => htt w (List.mem_append_left _ h)
  have htl : ∀ w ∈ wsL, w.before #[Value.ref b] s = true := fun w h => hth w (List.mem_append_left _ h)
  have htw : ∀ w ∈ wsC, w.before #[Value.ref b] s = true := fun w h => hth w (List.mem_append_right _ (List.mem_append_left _ h))
  have htm : ∀ w ∈ wsM, w.before #[Value.ref b] s = true := fun w h => htt w (List.mem_append_right _ h)
  obtain ⟨k, r, M', b2, N', hoc, hf2, hth0, hrb, hI⟩ := hop (xs (x4 + 1).toNatClampNeg) (xs (x4 + 2).toNatClampNeg) M N hI
  refine lv_aload_n hx hb d_L_law_284 rfl (lv_at hl 1 rfl) ?_
  refine lv_aload_n hx hb d_L_law_285 rfl (lv_at hl 0 rfl) ?_
  refine lv_iload hx hb d_L_law_286 (lv_at hl 4 rfl) ?_
  refine lv_iconst (v := 1) hx hb d_L_law_288 (by decide) ?_
  refine lv_iadd hx hb d_L_law_289 ?_
  refine va_sld hx hb hX hbl hbA hw.2.2.2.1 hi1 d_L_law_290 ?_
  refine lv_aload_n hx hb d_L_law_291 rfl (lv_at hl 0 rfl) ?_
  refine lv_iload hx hb d_L_law_292 (lv_at hl 4 rfl) ?_
  refine lv_iconst (v := 2) hx hb d_L_law_294 (by decide) ?_
  refine lv_iadd hx hb d_L_law_295 ?_
  refine va_sld hx hb hX hbl hbA hw.2.2.2.1 hi2 d_L_law_296 ?_
  refine lv_aload_n hx hb d_L_law_297 rfl (lv_at hl 3 rfl) ?_
  have key : ∀ (H : Heap) (locs : List Loc), lwK D o cO A G B E s (if k = 0 then vp_updL f 0 (if r = 0 then 0 else 1) else f) M' N H locs → W p l e room_1 s m #[Value.ref b] below meth c H locs (33 + k0) (747 + 6 * k0) (lw_Z below #[Value.ref b] s) (F0 m 301 ls (.int k :: [])) := by
    clear hw
    intro H locs hw
    refine lv_istore (lv' := [(5, .int k), (0, .ref b), (1, .ref (A 0)), (2, .ref (B 0)), (3, .ref o), (4, .int x4)]) hx hb d_L_law_301 hl (by decide) rfl (fun ls hl => ?_)
    refine lv_aload_n hx hb d_L_law_303 rfl (lv_at hl 3 rfl) ?_
    refine lv_aload_n hx hb d_L_law_304 rfl (lv_at hl 1 rfl) ?_
    refine lv_iload hx hb d_L_law_305 (lv_at hl 5 rfl) ?_
    refine lv_iconst (v := 1) hx hb d_L_law_307 (by decide) ?_
    refine lv_iadd hx hb d_L_law_308 ?_
    refine va_sld hx hb hX hbl hbA hw.2.2.2.1 hi1 d_L_law_309 ?_
    refine lv_aload_n hx hb d_L_law_310 rfl (lv_at hl 1 rfl) ?_
    refine lv_iload hx hb d_L_law_311 (lv_at hl 5 rfl) ?_
    refine lv_iconst (v := 2) hx hb d_L_law_313 (by decide) ?_
    refine lv_iadd hx hb d_L_law_314 ?_
    refine va_sld hx hb hX hbl hbA hw.2.2.2.1 hi2 d_L_law_315 ?_
    refine kb_calli (wc := wM B E N) (wr := wH o cO (if k = 0 then vp_updL f 0 (if r = 0 then 0 else 1) else f) A G M') (w1 := wM B E N') (ws' := wH o cO (if k = 0 then vp_updL f 0 (if r = 0 then 0 else 1) else f) A G M' ++ wM B E N') (va_runV (As := [.int (xs (x4 + 1).toNatClampNeg), .int (xs (x4 + 2).toNatClampNeg)]) (rest := []) ⟨hx, hb, hml, hown, htt⟩ (c_M_may l D B E (xs (x4 + 1).toNatClampNeg) (xs (x4 + 2).toNatClampNeg) N _ _ H.size hf2) ⟨callB_of 2 htt (wsLaw_M mM_84) rfl rfl rfl (htm _ mM_0) (htl _ mL_66) q_M_may ⟨by show 2 + 1 ≤ 2048; omega, by show 8 + (3 + 11) + 43 ≤ 84000; omega⟩, htm _ mM_82, htm _ mM_83⟩ (kb_preVh (fun _ _ _ _ h => h) hw [0, 1, 2, 3, 4, 5, 6, 7, 8, 9, 10, 11, 12, 13] [0, 1, 2, 3, 4, 5, 6, 7, 8, 9, 10, 11, 12] rfl rfl (by decide) rfl (fun _ _ _ => trivial) 0 (wM_0 B E _) rfl) rfl rfl hl.1 rfl (lv_room (Nat.le_of_ble_eq_true rfl)) d_L_law_316 ⟨by show _ + 0 ≤ 628987; omega, by show _ + 0 ≤ 7209143; omega⟩) hw [0, 1, 2, 3, 4, 5, 6, 7, 8, 9, 10, 11, 12, 13] [14, 15, 16, 17, 18, 19, 20, 21, 22, 23, 24, 25, 26, 27, 28, 29, 30, 31] rfl rfl (by decide) (by decide) rfl (fun H locs hw => ?_)
    refine W.cs (cells' := 33 + k0) (slots' := 747 + 6 * k0) rfl rfl ?_
    have hw := lwK_swap hw
    refine lv_istore (lv' := [(6, .int b2), (5, .int k), (0, .ref b), (1, .ref (A 0)), (2, .ref (B 0)), (3, .ref o), (4, .int x4)]) hx hb d_L_law_319 hl (by decide) rfl (fun ls hl => ?_)
    refine lv_aload_n hx hb d_L_law_321 rfl (lv_at hl 4 rfl) ?_
    refine kb_calli (wc := wM B E N') (wr := wH o cO (if k = 0 then vp_updL f 0 (if r = 0 then 0 else 1) else f) A G M') (w1 := wM B E N') (ws' := wH o cO (if k = 0 then vp_updL f 0 (if r = 0 then 0 else 1) else f) A G M' ++ wM B E N') (va_runV (As := []) (rest := []) ⟨hx, hb, hml, hown, htt⟩ (c_M_thrown l D B E N' _ _ H.size (show f_M_thrown N' = some (N' 0 0, N') from rfl)) ⟨callB_of 0 htt (wsLaw_M mM_51) rfl rfl rfl (htm _ mM_0) (htl _ mL_62) q_M_thrown ⟨by show 0 + 1 ≤ 2048; omega, by show 8 + (1 + 11) + 0 ≤ 84000; omega⟩, htm _ mM_49, htm _ mM_50⟩ (kb_preVh (fun _ _ _ _ h => h) hw [0, 1, 2, 3, 4, 5, 6, 7, 8, 9, 10, 11, 12, 13] [0, 1, 2, 3, 4, 5, 6, 7, 8, 9, 10, 11, 12] rfl rfl (by decide) rfl (fun _ _ _ => trivial) 0 (wM_0 B E _) rfl) rfl rfl hl.1 rfl (lv_room (Nat.le_of_ble_eq_true rfl)) d_L_law_322 ⟨by show _ + 0 ≤ 628987; omega, by show _ + 0 ≤ 7209143; omega⟩) hw [0, 1, 2, 3, 4, 5, 6, 7, 8, 9, 10, 11, 12, 13] [14, 15, 16, 17, 18, 19, 20, 21, 22, 23, 24, 25, 26, 27, 28, 29, 30, 31] rfl rfl (by decide) (by decide) rfl (fun H locs hw => ?_)
    refine W.cs (cells' := 33 + k0) (slots' := 747 + 6 * k0) rfl rfl ?_
    have hw := lwK_swap hw
    refine lv_iload hx hb d_L_law_325 (lv_at hl 1 rfl) ?_
    refine lv_icmp_eq (tgt := 332) hx hb d_L_law_327 (by decide) (fun cq => ?_) (fun cq => ?_)
    · refine lv_iload hx hb d_L_law_332 (lv_at hl 1 rfl) ?_
      refine lv_if_ne (tgt := 356) hx hb d_L_law_334 (by decide) (fun ck => ?_) (fun ck => ?_)
      · refine lv_goto (tgt := 883) hx hb d_L_law_356 (by decide) ?_
        exact next _ _ _ _ _ _ hI hw (lv_sub hl [2, 3, 4, 5, 6] rfl)
      · refine lv_aload_n hx hb d_L_law_337 rfl (lv_at hl 5 rfl) ?_
        refine lv_iconst (v := 0) hx hb d_L_law_338 (by decide) ?_
        refine va_lald hx hb hw.1 hw.2.1 14 13 rfl rfl (show ¬ ((0 : Int32) < 0 ∨ 1 ≤ (0 : Int32).toNatClampNeg) by decide) d_L_law_339 ?_
        refine lv_iload hx hb d_L_law_340 (lv_at hl 0 rfl) ?_
        refine lv_if_eq (tgt := 349) hx hb d_L_law_342 (by decide) (fun cz => ?_) (fun cz => ?_)
        · refine lv_lconst (v := 0) hx hb d_L_law_349 (by decide) ?_
          refine W.lcmp hx hb d_L_law_350 ?_
          refine lv_if_eq (tgt := 356) hx hb d_L_law_351 (by decide) (fun cq => ?_) (fun cq => ?_)
          · refine lv_goto (tgt := 883) hx hb d_L_law_356 (by decide) ?_
            exact next _ _ _ _ _ _ hI hw (lv_sub hl [2, 3, 4, 5, 6] rfl)
          · exact absurd (by rw [show (if k = 0 then vp_updL f 0 (if r = 0 then 0 else 1) else f) (Int32.toNatClampNeg 0) = (if r = 0 then 0 else 1) from by rw [if_pos ck]; rfl, hrb ck, if_pos cz]; exact lg_cmp_self _) cq
        · refine lv_lconst (v := 1) hx hb d_L_law_345 (by decide) ?_
          refine lv_goto (tgt := 350) hx hb d_L_law_346 (by decide) ?_
          refine W.lcmp hx hb d_L_law_350 ?_
          refine lv_if_eq (tgt := 356) hx hb d_L_law_351 (by decide) (fun cq => ?_) (fun cq => ?_)
          · refine lv_goto (tgt := 883) hx hb d_L_law_356 (by decide) ?_
            exact next _ _ _ _ _ _ hI hw (lv_sub hl [2, 3, 4, 5, 6] rfl)
          · exact absurd (by rw [show (if k = 0 then vp_updL f 0 (if r = 0 then 0 else 1) else f) (Int32.toNatClampNeg 0) = (if r = 0 then 0 else 1) from by rw [if_pos ck]; rfl, hrb ck, if_neg cz]; exact lg_cmp_self _) cq
    · exact absurd hth0 cq
  rcases hoc with ⟨h, hk0⟩ | ⟨j, x, hj, h, hk0⟩
  · subst hk0
    refine kb_calli (wc := wH o cO f A G M) (wr := wM B E N) (w1 := wH o cO (vp_updL f 0 (if r = 0 then 0 else 1)) A G M') (ws' := wL o cO (vp_updL f 0 (if r = 0 then 0 else 1)) A G M' B E N) (vx_runSW (As := [.ref (A 0), .int (xs (x4 + 1).toNatClampNeg), .int (xs (x4 + 2).toNatClampNeg), .ref o]) (rest := []) ⟨hx, hb, hml, hown, htt⟩ (n_L_may l D o cO f A G (xs (x4 + 1).toNatClampNeg) (xs (x4 + 2).toNatClampNeg) M r M' H.size h) (vx_cwSW 4 htt (wsLaw_S mL_20 mL_21 mL_0 mL_22) rfl rfl rfl q_L_may ⟨by show 4 + 1 ≤ 2048; omega, by show 8 + (5 + 11) + 86 ≤ 84000; omega⟩) (kb_preSh nnC_b hw [14, 15, 16, 17, 18, 19, 20, 21, 22, 23, 24, 25, 26, 27, 28, 29, 30, 31] [13, 14, 15, 16, 17, 18, 19, 20, 21, 22, 23, 24, 25, 26] rfl rfl (by decide) rfl (fun U hU hW => nnC_warm s U hW hE.1.1)) rfl rfl hl.1 rfl (lv_room (Nat.le_of_ble_eq_true rfl)) d_L_law_298 ⟨by show _ + 0 ≤ 628987; omega, by show _ + 0 ≤ 7209143; omega⟩) hw [14, 15, 16, 17, 18, 19, 20, 21, 22, 23, 24, 25, 26, 27, 28, 29, 30, 31] [0, 1, 2, 3, 4, 5, 6, 7, 8, 9, 10, 11, 12, 13] rfl rfl (by decide) (by decide) rfl (fun H locs hw => ?_)
    refine W.widen (k := 33 + k0) (n := 747 + 6 * k0) (by omega) (by omega) ?_
    exact key H locs hw
  · match j, hj with
    | 0, hj =>
      cases hj
      refine kb_calli (wc := wH o cO f A G M) (wr := wM B E N) (w1 := wH o cO f A G M') (ws' := wL o cO f A G M' B E N) (vx_runSW (As := [.ref (A 0), .int (xs (x4 + 1).toNatClampNeg), .int (xs (x4 + 2).toNatClampNeg), .ref o]) (rest := []) ⟨hx, hb, hml, hown, htt⟩ (t0_L_may l hlt D o cO f A G (xs (x4 + 1).toNatClampNeg) (xs (x4 + 2).toNatClampNeg) M M' H.size h) (vx_cwSW 4 htt (wsLaw_S mL_20 mL_21 mL_0 mL_22) rfl rfl rfl q_L_may ⟨by show 10 + 1 ≤ 2048; omega, by show 8 + (5 + 11) + 163 ≤ 84000; omega⟩) (kb_preSh (NN' := eH (va_A (wH o cO f A G M) H.size)) eH_b hw [14, 15, 16, 17, 18, 19, 20, 21, 22, 23, 24, 25, 26, 27, 28, 29, 30, 31] [13, 14, 15, 16, 17, 18, 19, 20, 21, 22, 23, 24, 25, 26] rfl rfl (by decide) rfl (fun U hU hW => ⟨eeC_call hE.1 hW hU hw.2.2.2.1 (va_free hw.2.2.1 hw.2.2.2.1 hw.2.2.2.2 [14, 15, 16, 17, 18, 19, 20, 21, 22, 23, 24, 25, 26, 27, 28, 29, 30, 31] rfl), ncX_al hW.alike hE.2⟩)) rfl rfl hl.1 rfl (lv_room (Nat.le_of_ble_eq_true rfl)) d_L_law_298 ⟨by show _ + 1 ≤ 628987; omega, by show _ + 6 ≤ 7209143; omega⟩) hw [14, 15, 16, 17, 18, 19, 20, 21, 22, 23, 24, 25, 26, 27, 28, 29, 30, 31] [0, 1, 2, 3, 4, 5, 6, 7, 8, 9, 10, 11, 12, 13] rfl rfl (by decide) (by decide) rfl (fun H locs hw => ?_)
      refine W.widen (k := 33 + k0) (n := 747 + 6 * k0) (by omega) (by omega) ?_
      subst hk0
      exact key H locs hw
    | j + 1, hj => simp at hj
def op_bound (Inv : (Nat → Nat → Int32) → (Nat → Nat → Int32) → Prop) : Prop := ∀ (M N : (Nat → Nat → Int32)), Inv M N → ∃ (r : Int32) (M' N' : (Nat → Nat → Int32)), f_P_bound M = some (r, M') ∧ f_M_bound N = some (r, N') ∧ Inv M' N'
set_option maxHeartbeats 4000000 in
set_option maxRecDepth 100000 in
theorem lc_bound {p : Program} {l : Launch} {e : Env} {s : State} {m : MethodId} {below : List Frame} {meth : Method} {c : Code} {D : va_G} {o : Nat} {cO : ClassId} {A : Nat → Nat} {G : Nat → ClassId} {B : Nat → Nat} {E : Nat → ClassId} {b L : Nat} {xs : Nat → Int32} {k0 : Nat} {x4 : Int32} (hL : L ≤ 2048) (hlt : l.stackTraces = false) (C0 : lw_At p s m meth c b L xs) (htt : ∀ w ∈ wsLaw, w.before #[Value.ref b] s = true) (hE : eH (fun q => s.heap.size ≤ q) s) {Inv : (Nat → Nat → Int32) → (Nat → Nat → Int32) → Prop} (hop : op_bound Inv) (hk : k0 + 4 ≤ L) (hx4 : x4 = nI k0)
    {f : Nat → Int64} {M N : (Nat → Nat → Int32)} {H : Heap} {locs : List Loc} {ls : Array Slot} (hI : Inv M N) (hw : lwK D o cO A G B E s f M N H locs) (hl : lv_has ls 7 [(0, .ref b), (1, .ref (A 0)), (2, .ref (B 0)), (3, .ref o), (4, .int x4)])
    (next : ∀ (f : Nat → Int64) (M N : (Nat → Nat → Int32)) (H : Heap) (locs : List Loc) (ls : Array Slot), Inv M N → lwK D o cO A G B E s f M N H locs → lv_has ls 7 [(0, .ref b), (1, .ref (A 0)), (2, .ref (B 0)), (3, .ref o), (4, .int x4)] → W p l e room_1 s m #[Value.ref b] below meth c H locs (33 + k0) (747 + 6 * k0) (lw_Z below #[Value.ref b] s) (F0 m 883 ls [])) : W p l e room_1 s m #[Value.ref b] below meth c H locs (32 + k0) (741 + 6 * k0) (lw_Z below #[Value.ref b] s) (F0 m 359 ls []) := by
  obtain ⟨hx, hb, hr, hml, hown0, hts, hX, hbl, hlocks, hgv⟩ := C0
  have hown : s.vm.findClass "PileLiftsLaw" = some m.cls := hown0
  have hbA : ¬ (fun q : Nat => s.heap.size ≤ q) b := Nat.not_le.mpr hbl
  obtain ⟨hi0, hi1, hi2, hi3⟩ := lw_in hx4 hk hL
  have hth : ∀ w ∈ wsH, w.before #[Value.ref b] s = true := fun w h => htt w (List.mem_append_left _ h)
  have htl : ∀ w ∈ wsL, w.before #[Value.ref b] s = true := fun w h => hth w (List.mem_append_left _ h)
  have htw : ∀ w ∈ wsC, w.before #[Value.ref b] s = true := fun w h => hth w (List.mem_append_right _ (List.mem_append_left _ h))
  have htm : ∀ w ∈ wsM, w.before #[Value.ref b] s = true := fun w h => htt w (List.mem_append_right _ h)
  obtain ⟨r, M', N', hf1, hf2, hI⟩ := hop M N hI
  refine lv_aload_n hx hb d_L_law_359 rfl (lv_at hl 1 rfl) ?_
  refine kb_calli (wc := wC A G M) (wr := wM B E N ++ [(o, .inl (cO, 1, .inr (.inl f)))]) (w1 := wC A G M') (ws' := wL o cO f A G M' B E N) (va_runV (As := []) (rest := []) ⟨hx, hb, hml, hown, htt⟩ (c_P_bound l D A G M _ _ H.size hf1) ⟨callB_of 0 htt (wsLaw_C mC_85) rfl rfl rfl (htw _ mC_0) (htl _ mL_3) q_P_bound ⟨by show 4 + 1 ≤ 2048; omega, by show 8 + (1 + 11) + 90 ≤ 84000; omega⟩, htw _ mC_83, htw _ mC_84⟩ (kb_preVh nnC_b hw [15, 16, 17, 18, 19, 20, 21, 22, 23, 24, 25, 26, 27, 28, 29, 30, 31] [14, 15, 16, 17, 18, 19, 20, 21, 22, 23, 24, 25, 26] rfl rfl (by decide) rfl (fun U hU hW => nnC_warm s U hW hE.1.1) 0 (wC_0 A G _) rfl) rfl rfl hl.1 rfl (lv_room (Nat.le_of_ble_eq_true rfl)) d_L_law_360 ⟨by show _ + 0 ≤ 628987; omega, by show _ + 0 ≤ 7209143; omega⟩) hw [15, 16, 17, 18, 19, 20, 21, 22, 23, 24, 25, 26, 27, 28, 29, 30, 31] [0, 1, 2, 3, 4, 5, 6, 7, 8, 9, 10, 11, 12, 13, 14] rfl rfl (by decide) (by decide) rfl (fun H locs hw => ?_)
  refine W.cs (cells' := 32 + k0) (slots' := 741 + 6 * k0) rfl rfl ?_
  refine lv_aload_n hx hb d_L_law_363 rfl (lv_at hl 2 rfl) ?_
  refine kb_calli (wc := wM B E N) (wr := wH o cO f A G M') (w1 := wM B E N') (ws' := wH o cO f A G M' ++ wM B E N') (va_runV (As := []) (rest := [.int r]) ⟨hx, hb, hml, hown, htt⟩ (c_M_bound l D B E N _ _ H.size hf2) ⟨callB_of 0 htt (wsLaw_M mM_87) rfl rfl rfl (htm _ mM_0) (htl _ mL_67) q_M_bound ⟨by show 3 + 1 ≤ 2048; omega, by show 8 + (1 + 11) + 71 ≤ 84000; omega⟩, htm _ mM_85, htm _ mM_86⟩ (kb_preVh (fun _ _ _ _ h => h) hw [0, 1, 2, 3, 4, 5, 6, 7, 8, 9, 10, 11, 12, 13] [0, 1, 2, 3, 4, 5, 6, 7, 8, 9, 10, 11, 12] rfl rfl (by decide) rfl (fun _ _ _ => trivial) 0 (wM_0 B E _) rfl) rfl rfl hl.1 rfl (lv_room (Nat.le_of_ble_eq_true rfl)) d_L_law_364 ⟨by show _ + 0 ≤ 628987; omega, by show _ + 0 ≤ 7209143; omega⟩) hw [0, 1, 2, 3, 4, 5, 6, 7, 8, 9, 10, 11, 12, 13] [14, 15, 16, 17, 18, 19, 20, 21, 22, 23, 24, 25, 26, 27, 28, 29, 30, 31] rfl rfl (by decide) (by decide) rfl (fun H locs hw => ?_)
  refine W.cs (cells' := 32 + k0) (slots' := 741 + 6 * k0) rfl rfl ?_
  have hw := lwK_swap hw
  refine lv_icmp_eq (tgt := 883) hx hb d_L_law_367 (by decide) (fun cq => ?_) (fun cq => ?_)
  · refine W.widen (k := 33 + k0) (n := 747 + 6 * k0) (by omega) (by omega) ?_
    exact next _ _ _ _ _ _ hI hw (lv_sub hl [0, 1, 2, 3, 4] rfl)
  · exact absurd rfl cq
def op_run (Inv : (Nat → Nat → Int32) → (Nat → Nat → Int32) → Prop) : Prop := ∀ (x1 : Int32) (M N : (Nat → Nat → Int32)), Inv M N → ∃ (k r : Int32) (M' : (Nat → Nat → Int32)) (b : Int32) (N' : (Nat → Nat → Int32)), kb_oc (f_P_run x1 M) (x_P_run x1 M) [3] k r M' ∧ f_M_run x1 N = some (b, N') ∧ N' 0 0 = k ∧ (k = 0 → r = b) ∧ Inv M' N'
set_option maxHeartbeats 4000000 in
set_option maxRecDepth 100000 in
theorem lc_run {p : Program} {l : Launch} {e : Env} {s : State} {m : MethodId} {below : List Frame} {meth : Method} {c : Code} {D : va_G} {o : Nat} {cO : ClassId} {A : Nat → Nat} {G : Nat → ClassId} {B : Nat → Nat} {E : Nat → ClassId} {b L : Nat} {xs : Nat → Int32} {k0 : Nat} {x4 : Int32} (hL : L ≤ 2048) (hlt : l.stackTraces = false) (C0 : lw_At p s m meth c b L xs) (htt : ∀ w ∈ wsLaw, w.before #[Value.ref b] s = true) (hE : eH (fun q => s.heap.size ≤ q) s) {Inv : (Nat → Nat → Int32) → (Nat → Nat → Int32) → Prop} (hop : op_run Inv) (hk : k0 + 4 ≤ L) (hx4 : x4 = nI k0)
    {f : Nat → Int64} {M N : (Nat → Nat → Int32)} {H : Heap} {locs : List Loc} {ls : Array Slot} (hI : Inv M N) (hw : lwK D o cO A G B E s f M N H locs) (hl : lv_has ls 7 [(0, .ref b), (1, .ref (A 0)), (2, .ref (B 0)), (3, .ref o), (4, .int x4)])
    (next : ∀ (f : Nat → Int64) (M N : (Nat → Nat → Int32)) (H : Heap) (locs : List Loc) (ls : Array Slot), Inv M N → lwK D o cO A G B E s f M N H locs → lv_has ls 7 [(0, .ref b), (1, .ref (A 0)), (2, .ref (B 0)), (3, .ref o), (4, .int x4)] → W p l e room_1 s m #[Value.ref b] below meth c H locs (33 + k0) (747 + 6 * k0) (lw_Z below #[Value.ref b] s) (F0 m 883 ls [])) : W p l e room_1 s m #[Value.ref b] below meth c H locs (32 + k0) (741 + 6 * k0) (lw_Z below #[Value.ref b] s) (F0 m 372 ls []) := by
  obtain ⟨hx, hb, hr, hml, hown0, hts, hX, hbl, hlocks, hgv⟩ := C0
  have hown : s.vm.findClass "PileLiftsLaw" = some m.cls := hown0
  have hbA : ¬ (fun q : Nat => s.heap.size ≤ q) b := Nat.not_le.mpr hbl
  obtain ⟨hi0, hi1, hi2, hi3⟩ := lw_in hx4 hk hL
  have hth : ∀ w ∈ wsH, w.before #[Value.ref b] s = true := fun w h => htt w (List.mem_append_left _ h)
  have htl : ∀ w ∈ wsL, w.before #[Value.ref b] s = true := fun w h => hth w (List.mem_append_left _ h)
  have htw : ∀ w ∈ wsC, w.before #[Value.ref b] s = true := fun w h => hth w (List.mem_append_right _ (List.mem_append_left _ h))
  have htm : ∀ w ∈ wsM, w.before #[Value.ref b] s = true := fun w h => htt w (List.mem_append_right _ h)
  obtain ⟨k, r, M', b2, N', hoc, hf2, hth0, hrb, hI⟩ := hop (xs (x4 + 1).toNatClampNeg) M N hI
  refine lv_aload_n hx hb d_L_law_372 rfl (lv_at hl 1 rfl) ?_
  refine lv_aload_n hx hb d_L_law_373 rfl (lv_at hl 0 rfl) ?_
  refine lv_iload hx hb d_L_law_374 (lv_at hl 4 rfl) ?_
  refine lv_iconst (v := 1) hx hb d_L_law_376 (by decide) ?_
  refine lv_iadd hx hb d_L_law_377 ?_
  refine va_sld hx hb hX hbl hbA hw.2.2.2.1 hi1 d_L_law_378 ?_
  refine lv_aload_n hx hb d_L_law_379 rfl (lv_at hl 3 rfl) ?_
  have key : ∀ (H : Heap) (locs : List Loc), lwK D o cO A G B E s (if k = 0 then vp_updL f 0 r.toInt64 else f) M' N H locs → W p l e room_1 s m #[Value.ref b] below meth c H locs (33 + k0) (747 + 6 * k0) (lw_Z below #[Value.ref b] s) (F0 m 383 ls (.int k :: [])) := by
    clear hw
    intro H locs hw
    refine lv_istore (lv' := [(5, .int k), (0, .ref b), (1, .ref (A 0)), (2, .ref (B 0)), (3, .ref o), (4, .int x4)]) hx hb d_L_law_383 hl (by decide) rfl (fun ls hl => ?_)
    refine lv_aload_n hx hb d_L_law_385 rfl (lv_at hl 3 rfl) ?_
    refine lv_aload_n hx hb d_L_law_386 rfl (lv_at hl 1 rfl) ?_
    refine lv_iload hx hb d_L_law_387 (lv_at hl 5 rfl) ?_
    refine lv_iconst (v := 1) hx hb d_L_law_389 (by decide) ?_
    refine lv_iadd hx hb d_L_law_390 ?_
    refine va_sld hx hb hX hbl hbA hw.2.2.2.1 hi1 d_L_law_391 ?_
    refine kb_calli (wc := wM B E N) (wr := wH o cO (if k = 0 then vp_updL f 0 r.toInt64 else f) A G M') (w1 := wM B E N') (ws' := wH o cO (if k = 0 then vp_updL f 0 r.toInt64 else f) A G M' ++ wM B E N') (va_runV (As := [.int (xs (x4 + 1).toNatClampNeg)]) (rest := []) ⟨hx, hb, hml, hown, htt⟩ (c_M_run l D B E (xs (x4 + 1).toNatClampNeg) N _ _ H.size hf2) ⟨callB_of 1 htt (wsLaw_M mM_99) rfl rfl rfl (htm _ mM_0) (htl _ mL_68) q_M_run ⟨by show 4 + 1 ≤ 2048; omega, by show 8 + (5 + 11) + 99 ≤ 84000; omega⟩, htm _ mM_97, htm _ mM_98⟩ (kb_preVh (fun _ _ _ _ h => h) hw [0, 1, 2, 3, 4, 5, 6, 7, 8, 9, 10, 11, 12, 13] [0, 1, 2, 3, 4, 5, 6, 7, 8, 9, 10, 11, 12] rfl rfl (by decide) rfl (fun _ _ _ => trivial) 0 (wM_0 B E _) rfl) rfl rfl hl.1 rfl (lv_room (Nat.le_of_ble_eq_true rfl)) d_L_law_392 ⟨by show _ + 0 ≤ 628987; omega, by show _ + 0 ≤ 7209143; omega⟩) hw [0, 1, 2, 3, 4, 5, 6, 7, 8, 9, 10, 11, 12, 13] [14, 15, 16, 17, 18, 19, 20, 21, 22, 23, 24, 25, 26, 27, 28, 29, 30, 31] rfl rfl (by decide) (by decide) rfl (fun H locs hw => ?_)
    refine W.cs (cells' := 33 + k0) (slots' := 747 + 6 * k0) rfl rfl ?_
    have hw := lwK_swap hw
    refine lv_istore (lv' := [(6, .int b2), (5, .int k), (0, .ref b), (1, .ref (A 0)), (2, .ref (B 0)), (3, .ref o), (4, .int x4)]) hx hb d_L_law_395 hl (by decide) rfl (fun ls hl => ?_)
    refine lv_aload_n hx hb d_L_law_397 rfl (lv_at hl 4 rfl) ?_
    refine kb_calli (wc := wM B E N') (wr := wH o cO (if k = 0 then vp_updL f 0 r.toInt64 else f) A G M') (w1 := wM B E N') (ws' := wH o cO (if k = 0 then vp_updL f 0 r.toInt64 else f) A G M' ++ wM B E N') (va_runV (As := []) (rest := []) ⟨hx, hb, hml, hown, htt⟩ (c_M_thrown l D B E N' _ _ H.size (show f_M_thrown N' = some (N' 0 0, N') from rfl)) ⟨callB_of 0 htt (wsLaw_M mM_51) rfl rfl rfl (htm _ mM_0) (htl _ mL_62) q_M_thrown ⟨by show 0 + 1 ≤ 2048; omega, by show 8 + (1 + 11) + 0 ≤ 84000; omega⟩, htm _ mM_49, htm _ mM_50⟩ (kb_preVh (fun _ _ _ _ h => h) hw [0, 1, 2, 3, 4, 5, 6, 7, 8, 9, 10, 11, 12, 13] [0, 1, 2, 3, 4, 5, 6, 7, 8, 9, 10, 11, 12] rfl rfl (by decide) rfl (fun _ _ _ => trivial) 0 (wM_0 B E _) rfl) rfl rfl hl.1 rfl (lv_room (Nat.le_of_ble_eq_true rfl)) d_L_law_398 ⟨by show _ + 0 ≤ 628987; omega, by show _ + 0 ≤ 7209143; omega⟩) hw [0, 1, 2, 3, 4, 5, 6, 7, 8, 9, 10, 11, 12, 13] [14, 15, 16, 17, 18, 19, 20, 21, 22, 23, 24, 25, 26, 27, 28, 29, 30, 31] rfl rfl (by decide) (by decide) rfl (fun H locs hw => ?_)
    refine W.cs (cells' := 33 + k0) (slots' := 747 + 6 * k0) rfl rfl ?_
    have hw := lwK_swap hw
    refine lv_iload hx hb d_L_law_401 (lv_at hl 1 rfl) ?_
    refine lv_icmp_eq (tgt := 408) hx hb d_L_law_403 (by decide) (fun cq => ?_) (fun cq => ?_)
    · refine lv_iload hx hb d_L_law_408 (lv_at hl 1 rfl) ?_
      refine lv_if_ne (tgt := 425) hx hb d_L_law_410 (by decide) (fun ck => ?_) (fun ck => ?_)
      · refine lv_goto (tgt := 883) hx hb d_L_law_425 (by decide) ?_
        exact next _ _ _ _ _ _ hI hw (lv_sub hl [2, 3, 4, 5, 6] rfl)
      · refine lv_aload_n hx hb d_L_law_413 rfl (lv_at hl 5 rfl) ?_
        refine lv_iconst (v := 0) hx hb d_L_law_414 (by decide) ?_
        refine va_lald hx hb hw.1 hw.2.1 14 13 rfl rfl (show ¬ ((0 : Int32) < 0 ∨ 1 ≤ (0 : Int32).toNatClampNeg) by decide) d_L_law_415 ?_
        refine lv_iload hx hb d_L_law_416 (lv_at hl 0 rfl) ?_
        refine lv_i2l (v := b2.toInt64) hx hb d_L_law_418 rfl ?_
        refine W.lcmp hx hb d_L_law_419 ?_
        refine lv_if_eq (tgt := 425) hx hb d_L_law_420 (by decide) (fun cq => ?_) (fun cq => ?_)
        · refine lv_goto (tgt := 883) hx hb d_L_law_425 (by decide) ?_
          exact next _ _ _ _ _ _ hI hw (lv_sub hl [2, 3, 4, 5, 6] rfl)
        · exact absurd (by rw [show (if k = 0 then vp_updL f 0 r.toInt64 else f) (Int32.toNatClampNeg 0) = r.toInt64 from by rw [if_pos ck]; rfl, hrb ck]; exact lg_cmp_self _) cq
    · exact absurd hth0 cq
  rcases hoc with ⟨h, hk0⟩ | ⟨j, x, hj, h, hk0⟩
  · subst hk0
    refine kb_calli (wc := wH o cO f A G M) (wr := wM B E N) (w1 := wH o cO (vp_updL f 0 r.toInt64) A G M') (ws' := wL o cO (vp_updL f 0 r.toInt64) A G M' B E N) (vx_runSW (As := [.ref (A 0), .int (xs (x4 + 1).toNatClampNeg), .ref o]) (rest := []) ⟨hx, hb, hml, hown, htt⟩ (n_L_run l D o cO f A G (xs (x4 + 1).toNatClampNeg) M r M' H.size h) (vx_cwSW 3 htt (wsLaw_S mL_24 mL_25 mL_0 mL_26) rfl rfl rfl q_L_run ⟨by show 339 + 1 ≤ 2048; omega, by show 8 + (4 + 11) + 6790 ≤ 84000; omega⟩) (kb_preSh nnC_b hw [14, 15, 16, 17, 18, 19, 20, 21, 22, 23, 24, 25, 26, 27, 28, 29, 30, 31] [13, 14, 15, 16, 17, 18, 19, 20, 21, 22, 23, 24, 25, 26] rfl rfl (by decide) rfl (fun U hU hW => nnC_warm s U hW hE.1.1)) rfl rfl hl.1 rfl (lv_room (Nat.le_of_ble_eq_true rfl)) d_L_law_380 ⟨by show _ + 0 ≤ 628987; omega, by show _ + 0 ≤ 7209143; omega⟩) hw [14, 15, 16, 17, 18, 19, 20, 21, 22, 23, 24, 25, 26, 27, 28, 29, 30, 31] [0, 1, 2, 3, 4, 5, 6, 7, 8, 9, 10, 11, 12, 13] rfl rfl (by decide) (by decide) rfl (fun H locs hw => ?_)
    refine W.widen (k := 33 + k0) (n := 747 + 6 * k0) (by omega) (by omega) ?_
    exact key H locs hw
  · match j, hj with
    | 0, hj =>
      cases hj
      refine kb_calli (wc := wH o cO f A G M) (wr := wM B E N) (w1 := wH o cO f A G M') (ws' := wL o cO f A G M' B E N) (vx_runSW (As := [.ref (A 0), .int (xs (x4 + 1).toNatClampNeg), .ref o]) (rest := []) ⟨hx, hb, hml, hown, htt⟩ (t0_L_run l hlt D o cO f A G (xs (x4 + 1).toNatClampNeg) M M' H.size h) (vx_cwSW 3 htt (wsLaw_S mL_24 mL_25 mL_0 mL_26) rfl rfl rfl q_L_run ⟨by show 339 + 1 ≤ 2048; omega, by show 8 + (4 + 11) + 6790 ≤ 84000; omega⟩) (kb_preSh (NN' := eH (va_A (wH o cO f A G M) H.size)) eH_b hw [14, 15, 16, 17, 18, 19, 20, 21, 22, 23, 24, 25, 26, 27, 28, 29, 30, 31] [13, 14, 15, 16, 17, 18, 19, 20, 21, 22, 23, 24, 25, 26] rfl rfl (by decide) rfl (fun U hU hW => ⟨eeC_call hE.1 hW hU hw.2.2.2.1 (va_free hw.2.2.1 hw.2.2.2.1 hw.2.2.2.2 [14, 15, 16, 17, 18, 19, 20, 21, 22, 23, 24, 25, 26, 27, 28, 29, 30, 31] rfl), ncX_al hW.alike hE.2⟩)) rfl rfl hl.1 rfl (lv_room (Nat.le_of_ble_eq_true rfl)) d_L_law_380 ⟨by show _ + 1 ≤ 628987; omega, by show _ + 6 ≤ 7209143; omega⟩) hw [14, 15, 16, 17, 18, 19, 20, 21, 22, 23, 24, 25, 26, 27, 28, 29, 30, 31] [0, 1, 2, 3, 4, 5, 6, 7, 8, 9, 10, 11, 12, 13] rfl rfl (by decide) (by decide) rfl (fun H locs hw => ?_)
      refine W.widen (k := 33 + k0) (n := 747 + 6 * k0) (by omega) (by omega) ?_
      subst hk0
      exact key H locs hw
    | j + 1, hj => simp at hj
def op_proved (Inv : (Nat → Nat → Int32) → (Nat → Nat → Int32) → Prop) : Prop := ∀ (M N : (Nat → Nat → Int32)), Inv M N → ∃ (k r : Int32) (M' : (Nat → Nat → Int32)) (b : Int32) (N' : (Nat → Nat → Int32)), kb_oc (f_P_proved M) (x_P_proved M) [2] k r M' ∧ f_M_proved N = some (b, N') ∧ N' 0 0 = k ∧ (k = 0 → r = b) ∧ Inv M' N'
set_option maxHeartbeats 4000000 in
set_option maxRecDepth 100000 in
theorem lc_proved {p : Program} {l : Launch} {e : Env} {s : State} {m : MethodId} {below : List Frame} {meth : Method} {c : Code} {D : va_G} {o : Nat} {cO : ClassId} {A : Nat → Nat} {G : Nat → ClassId} {B : Nat → Nat} {E : Nat → ClassId} {b L : Nat} {xs : Nat → Int32} {k0 : Nat} {x4 : Int32} (hL : L ≤ 2048) (hlt : l.stackTraces = false) (C0 : lw_At p s m meth c b L xs) (htt : ∀ w ∈ wsLaw, w.before #[Value.ref b] s = true) (hE : eH (fun q => s.heap.size ≤ q) s) {Inv : (Nat → Nat → Int32) → (Nat → Nat → Int32) → Prop} (hop : op_proved Inv) (hk : k0 + 4 ≤ L) (hx4 : x4 = nI k0)
    {f : Nat → Int64} {M N : (Nat → Nat → Int32)} {H : Heap} {locs : List Loc} {ls : Array Slot} (hI : Inv M N) (hw : lwK D o cO A G B E s f M N H locs) (hl : lv_has ls 7 [(0, .ref b), (1, .ref (A 0)), (2, .ref (B 0)), (3, .ref o), (4, .int x4)])
    (next : ∀ (f : Nat → Int64) (M N : (Nat → Nat → Int32)) (H : Heap) (locs : List Loc) (ls : Array Slot), Inv M N → lwK D o cO A G B E s f M N H locs → lv_has ls 7 [(0, .ref b), (1, .ref (A 0)), (2, .ref (B 0)), (3, .ref o), (4, .int x4)] → W p l e room_1 s m #[Value.ref b] below meth c H locs (33 + k0) (747 + 6 * k0) (lw_Z below #[Value.ref b] s) (F0 m 883 ls [])) : W p l e room_1 s m #[Value.ref b] below meth c H locs (32 + k0) (741 + 6 * k0) (lw_Z below #[Value.ref b] s) (F0 m 428 ls []) := by
  obtain ⟨hx, hb, hr, hml, hown0, hts, hX, hbl, hlocks, hgv⟩ := C0
  have hown : s.vm.findClass "PileLiftsLaw" = some m.cls := hown0
  have hbA : ¬ (fun q : Nat => s.heap.size ≤ q) b := Nat.not_le.mpr hbl
  obtain ⟨hi0, hi1, hi2, hi3⟩ := lw_in hx4 hk hL
  have hth : ∀ w ∈ wsH, w.before #[Value.ref b] s = true := fun w h => htt w (List.mem_append_left _ h)
  have htl : ∀ w ∈ wsL, w.before #[Value.ref b] s = true := fun w h => hth w (List.mem_append_left _ h)
  have htw : ∀ w ∈ wsC, w.before #[Value.ref b] s = true := fun w h => hth w (List.mem_append_right _ (List.mem_append_left _ h))
  have htm : ∀ w ∈ wsM, w.before #[Value.ref b] s = true := fun w h => htt w (List.mem_append_right _ h)
  obtain ⟨k, r, M', b2, N', hoc, hf2, hth0, hrb, hI⟩ := hop M N hI
  refine lv_aload_n hx hb d_L_law_428 rfl (lv_at hl 1 rfl) ?_
  refine lv_aload_n hx hb d_L_law_429 rfl (lv_at hl 3 rfl) ?_
  have key : ∀ (H : Heap) (locs : List Loc), lwK D o cO A G B E s (if k = 0 then vp_updL f 0 (if r = 0 then 0 else 1) else f) M' N H locs → W p l e room_1 s m #[Value.ref b] below meth c H locs (33 + k0) (747 + 6 * k0) (lw_Z below #[Value.ref b] s) (F0 m 433 ls (.int k :: [])) := by
    clear hw
    intro H locs hw
    refine lv_istore (lv' := [(5, .int k), (0, .ref b), (1, .ref (A 0)), (2, .ref (B 0)), (3, .ref o), (4, .int x4)]) hx hb d_L_law_433 hl (by decide) rfl (fun ls hl => ?_)
    refine lv_aload_n hx hb d_L_law_435 rfl (lv_at hl 3 rfl) ?_
    refine kb_calli (wc := wM B E N) (wr := wH o cO (if k = 0 then vp_updL f 0 (if r = 0 then 0 else 1) else f) A G M') (w1 := wM B E N') (ws' := wH o cO (if k = 0 then vp_updL f 0 (if r = 0 then 0 else 1) else f) A G M' ++ wM B E N') (va_runV (As := []) (rest := []) ⟨hx, hb, hml, hown, htt⟩ (c_M_proved l D B E N _ _ H.size hf2) ⟨callB_of 0 htt (wsLaw_M mM_124) rfl rfl rfl (htm _ mM_0) (htl _ mL_69) q_M_proved ⟨by show 1 + 1 ≤ 2048; omega, by show 8 + (1 + 11) + 23 ≤ 84000; omega⟩, htm _ mM_122, htm _ mM_123⟩ (kb_preVh (fun _ _ _ _ h => h) hw [0, 1, 2, 3, 4, 5, 6, 7, 8, 9, 10, 11, 12, 13] [0, 1, 2, 3, 4, 5, 6, 7, 8, 9, 10, 11, 12] rfl rfl (by decide) rfl (fun _ _ _ => trivial) 0 (wM_0 B E _) rfl) rfl rfl hl.1 rfl (lv_room (Nat.le_of_ble_eq_true rfl)) d_L_law_436 ⟨by show _ + 0 ≤ 628987; omega, by show _ + 0 ≤ 7209143; omega⟩) hw [0, 1, 2, 3, 4, 5, 6, 7, 8, 9, 10, 11, 12, 13] [14, 15, 16, 17, 18, 19, 20, 21, 22, 23, 24, 25, 26, 27, 28, 29, 30, 31] rfl rfl (by decide) (by decide) rfl (fun H locs hw => ?_)
    refine W.cs (cells' := 33 + k0) (slots' := 747 + 6 * k0) rfl rfl ?_
    have hw := lwK_swap hw
    refine lv_istore (lv' := [(6, .int b2), (5, .int k), (0, .ref b), (1, .ref (A 0)), (2, .ref (B 0)), (3, .ref o), (4, .int x4)]) hx hb d_L_law_439 hl (by decide) rfl (fun ls hl => ?_)
    refine lv_aload_n hx hb d_L_law_441 rfl (lv_at hl 4 rfl) ?_
    refine kb_calli (wc := wM B E N') (wr := wH o cO (if k = 0 then vp_updL f 0 (if r = 0 then 0 else 1) else f) A G M') (w1 := wM B E N') (ws' := wH o cO (if k = 0 then vp_updL f 0 (if r = 0 then 0 else 1) else f) A G M' ++ wM B E N') (va_runV (As := []) (rest := []) ⟨hx, hb, hml, hown, htt⟩ (c_M_thrown l D B E N' _ _ H.size (show f_M_thrown N' = some (N' 0 0, N') from rfl)) ⟨callB_of 0 htt (wsLaw_M mM_51) rfl rfl rfl (htm _ mM_0) (htl _ mL_62) q_M_thrown ⟨by show 0 + 1 ≤ 2048; omega, by show 8 + (1 + 11) + 0 ≤ 84000; omega⟩, htm _ mM_49, htm _ mM_50⟩ (kb_preVh (fun _ _ _ _ h => h) hw [0, 1, 2, 3, 4, 5, 6, 7, 8, 9, 10, 11, 12, 13] [0, 1, 2, 3, 4, 5, 6, 7, 8, 9, 10, 11, 12] rfl rfl (by decide) rfl (fun _ _ _ => trivial) 0 (wM_0 B E _) rfl) rfl rfl hl.1 rfl (lv_room (Nat.le_of_ble_eq_true rfl)) d_L_law_442 ⟨by show _ + 0 ≤ 628987; omega, by show _ + 0 ≤ 7209143; omega⟩) hw [0, 1, 2, 3, 4, 5, 6, 7, 8, 9, 10, 11, 12, 13] [14, 15, 16, 17, 18, 19, 20, 21, 22, 23, 24, 25, 26, 27, 28, 29, 30, 31] rfl rfl (by decide) (by decide) rfl (fun H locs hw => ?_)
    refine W.cs (cells' := 33 + k0) (slots' := 747 + 6 * k0) rfl rfl ?_
    have hw := lwK_swap hw
    refine lv_iload hx hb d_L_law_445 (lv_at hl 1 rfl) ?_
    refine lv_icmp_eq (tgt := 452) hx hb d_L_law_447 (by decide) (fun cq => ?_) (fun cq => ?_)
    · refine lv_iload hx hb d_L_law_452 (lv_at hl 1 rfl) ?_
      refine lv_if_ne (tgt := 476) hx hb d_L_law_454 (by decide) (fun ck => ?_) (fun ck => ?_)
      · refine lv_goto (tgt := 883) hx hb d_L_law_476 (by decide) ?_
        exact next _ _ _ _ _ _ hI hw (lv_sub hl [2, 3, 4, 5, 6] rfl)
      · refine lv_aload_n hx hb d_L_law_457 rfl (lv_at hl 5 rfl) ?_
        refine lv_iconst (v := 0) hx hb d_L_law_458 (by decide) ?_
        refine va_lald hx hb hw.1 hw.2.1 14 13 rfl rfl (show ¬ ((0 : Int32) < 0 ∨ 1 ≤ (0 : Int32).toNatClampNeg) by decide) d_L_law_459 ?_
        refine lv_iload hx hb d_L_law_460 (lv_at hl 0 rfl) ?_
        refine lv_if_eq (tgt := 469) hx hb d_L_law_462 (by decide) (fun cz => ?_) (fun cz => ?_)
        · refine lv_lconst (v := 0) hx hb d_L_law_469 (by decide) ?_
          refine W.lcmp hx hb d_L_law_470 ?_
          refine lv_if_eq (tgt := 476) hx hb d_L_law_471 (by decide) (fun cq => ?_) (fun cq => ?_)
          · refine lv_goto (tgt := 883) hx hb d_L_law_476 (by decide) ?_
            exact next _ _ _ _ _ _ hI hw (lv_sub hl [2, 3, 4, 5, 6] rfl)
          · exact absurd (by rw [show (if k = 0 then vp_updL f 0 (if r = 0 then 0 else 1) else f) (Int32.toNatClampNeg 0) = (if r = 0 then 0 else 1) from by rw [if_pos ck]; rfl, hrb ck, if_pos cz]; exact lg_cmp_self _) cq
        · refine lv_lconst (v := 1) hx hb d_L_law_465 (by decide) ?_
          refine lv_goto (tgt := 470) hx hb d_L_law_466 (by decide) ?_
          refine W.lcmp hx hb d_L_law_470 ?_
          refine lv_if_eq (tgt := 476) hx hb d_L_law_471 (by decide) (fun cq => ?_) (fun cq => ?_)
          · refine lv_goto (tgt := 883) hx hb d_L_law_476 (by decide) ?_
            exact next _ _ _ _ _ _ hI hw (lv_sub hl [2, 3, 4, 5, 6] rfl)
          · exact absurd (by rw [show (if k = 0 then vp_updL f 0 (if r = 0 then 0 else 1) else f) (Int32.toNatClampNeg 0) = (if r = 0 then 0 else 1) from by rw [if_pos ck]; rfl, hrb ck, if_neg cz]; exact lg_cmp_self _) cq
    · exact absurd hth0 cq
  rcases hoc with ⟨h, hk0⟩ | ⟨j, x, hj, h, hk0⟩
  · subst hk0
    refine kb_calli (wc := wH o cO f A G M) (wr := wM B E N) (w1 := wH o cO (vp_updL f 0 (if r = 0 then 0 else 1)) A G M') (ws' := wL o cO (vp_updL f 0 (if r = 0 then 0 else 1)) A G M' B E N) (vx_runSW (As := [.ref (A 0), .ref o]) (rest := []) ⟨hx, hb, hml, hown, htt⟩ (n_L_proved l D o cO f A G M r M' H.size h) (vx_cwSW 2 htt (wsLaw_S mL_28 mL_29 mL_0 mL_30) rfl rfl rfl q_L_proved ⟨by show 1 + 1 ≤ 2048; omega, by show 8 + (3 + 11) + 20 ≤ 84000; omega⟩) (kb_preSh nnC_b hw [14, 15, 16, 17, 18, 19, 20, 21, 22, 23, 24, 25, 26, 27, 28, 29, 30, 31] [13, 14, 15, 16, 17, 18, 19, 20, 21, 22, 23, 24, 25, 26] rfl rfl (by decide) rfl (fun U hU hW => nnC_warm s U hW hE.1.1)) rfl rfl hl.1 rfl (lv_room (Nat.le_of_ble_eq_true rfl)) d_L_law_430 ⟨by show _ + 0 ≤ 628987; omega, by show _ + 0 ≤ 7209143; omega⟩) hw [14, 15, 16, 17, 18, 19, 20, 21, 22, 23, 24, 25, 26, 27, 28, 29, 30, 31] [0, 1, 2, 3, 4, 5, 6, 7, 8, 9, 10, 11, 12, 13] rfl rfl (by decide) (by decide) rfl (fun H locs hw => ?_)
    refine W.widen (k := 33 + k0) (n := 747 + 6 * k0) (by omega) (by omega) ?_
    exact key H locs hw
  · match j, hj with
    | 0, hj =>
      cases hj
      refine kb_calli (wc := wH o cO f A G M) (wr := wM B E N) (w1 := wH o cO f A G M') (ws' := wL o cO f A G M' B E N) (vx_runSW (As := [.ref (A 0), .ref o]) (rest := []) ⟨hx, hb, hml, hown, htt⟩ (t0_L_proved l hlt D o cO f A G M M' H.size h) (vx_cwSW 2 htt (wsLaw_S mL_28 mL_29 mL_0 mL_30) rfl rfl rfl q_L_proved ⟨by show 9 + 1 ≤ 2048; omega, by show 8 + (3 + 11) + 140 ≤ 84000; omega⟩) (kb_preSh (NN' := eH (va_A (wH o cO f A G M) H.size)) eH_b hw [14, 15, 16, 17, 18, 19, 20, 21, 22, 23, 24, 25, 26, 27, 28, 29, 30, 31] [13, 14, 15, 16, 17, 18, 19, 20, 21, 22, 23, 24, 25, 26] rfl rfl (by decide) rfl (fun U hU hW => ⟨eeC_call hE.1 hW hU hw.2.2.2.1 (va_free hw.2.2.1 hw.2.2.2.1 hw.2.2.2.2 [14, 15, 16, 17, 18, 19, 20, 21, 22, 23, 24, 25, 26, 27, 28, 29, 30, 31] rfl), ncX_al hW.alike hE.2⟩)) rfl rfl hl.1 rfl (lv_room (Nat.le_of_ble_eq_true rfl)) d_L_law_430 ⟨by show _ + 1 ≤ 628987; omega, by show _ + 6 ≤ 7209143; omega⟩) hw [14, 15, 16, 17, 18, 19, 20, 21, 22, 23, 24, 25, 26, 27, 28, 29, 30, 31] [0, 1, 2, 3, 4, 5, 6, 7, 8, 9, 10, 11, 12, 13] rfl rfl (by decide) (by decide) rfl (fun H locs hw => ?_)
      refine W.widen (k := 33 + k0) (n := 747 + 6 * k0) (by omega) (by omega) ?_
      subst hk0
      exact key H locs hw
    | j + 1, hj => simp at hj
def op_moves (Inv : (Nat → Nat → Int32) → (Nat → Nat → Int32) → Prop) : Prop := ∀ (M N : (Nat → Nat → Int32)), Inv M N → ∃ (k r : Int32) (M' : (Nat → Nat → Int32)) (b : Int32) (N' : (Nat → Nat → Int32)), kb_oc (f_P_moves M) (x_P_moves M) [2] k r M' ∧ f_M_moves N = some (b, N') ∧ N' 0 0 = k ∧ (k = 0 → r = b) ∧ Inv M' N'
set_option maxHeartbeats 4000000 in
set_option maxRecDepth 100000 in
theorem lc_moves {p : Program} {l : Launch} {e : Env} {s : State} {m : MethodId} {below : List Frame} {meth : Method} {c : Code} {D : va_G} {o : Nat} {cO : ClassId} {A : Nat → Nat} {G : Nat → ClassId} {B : Nat → Nat} {E : Nat → ClassId} {b L : Nat} {xs : Nat → Int32} {k0 : Nat} {x4 : Int32} (hL : L ≤ 2048) (hlt : l.stackTraces = false) (C0 : lw_At p s m meth c b L xs) (htt : ∀ w ∈ wsLaw, w.before #[Value.ref b] s = true) (hE : eH (fun q => s.heap.size ≤ q) s) {Inv : (Nat → Nat → Int32) → (Nat → Nat → Int32) → Prop} (hop : op_moves Inv) (hk : k0 + 4 ≤ L) (hx4 : x4 = nI k0)
    {f : Nat → Int64} {M N : (Nat → Nat → Int32)} {H : Heap} {locs : List Loc} {ls : Array Slot} (hI : Inv M N) (hw : lwK D o cO A G B E s f M N H locs) (hl : lv_has ls 7 [(0, .ref b), (1, .ref (A 0)), (2, .ref (B 0)), (3, .ref o), (4, .int x4)])
    (next : ∀ (f : Nat → Int64) (M N : (Nat → Nat → Int32)) (H : Heap) (locs : List Loc) (ls : Array Slot), Inv M N → lwK D o cO A G B E s f M N H locs → lv_has ls 7 [(0, .ref b), (1, .ref (A 0)), (2, .ref (B 0)), (3, .ref o), (4, .int x4)] → W p l e room_1 s m #[Value.ref b] below meth c H locs (33 + k0) (747 + 6 * k0) (lw_Z below #[Value.ref b] s) (F0 m 883 ls [])) : W p l e room_1 s m #[Value.ref b] below meth c H locs (32 + k0) (741 + 6 * k0) (lw_Z below #[Value.ref b] s) (F0 m 479 ls []) := by
  obtain ⟨hx, hb, hr, hml, hown0, hts, hX, hbl, hlocks, hgv⟩ := C0
  have hown : s.vm.findClass "PileLiftsLaw" = some m.cls := hown0
  have hbA : ¬ (fun q : Nat => s.heap.size ≤ q) b := Nat.not_le.mpr hbl
  obtain ⟨hi0, hi1, hi2, hi3⟩ := lw_in hx4 hk hL
  have hth : ∀ w ∈ wsH, w.before #[Value.ref b] s = true := fun w h => htt w (List.mem_append_left _ h)
  have htl : ∀ w ∈ wsL, w.before #[Value.ref b] s = true := fun w h => hth w (List.mem_append_left _ h)
  have htw : ∀ w ∈ wsC, w.before #[Value.ref b] s = true := fun w h => hth w (List.mem_append_right _ (List.mem_append_left _ h))
  have htm : ∀ w ∈ wsM, w.before #[Value.ref b] s = true := fun w h => htt w (List.mem_append_right _ h)
  obtain ⟨k, r, M', b2, N', hoc, hf2, hth0, hrb, hI⟩ := hop M N hI
  refine lv_aload_n hx hb d_L_law_479 rfl (lv_at hl 1 rfl) ?_
  refine lv_aload_n hx hb d_L_law_480 rfl (lv_at hl 3 rfl) ?_
  have key : ∀ (H : Heap) (locs : List Loc), lwK D o cO A G B E s (if k = 0 then vp_updL f 0 r.toInt64 else f) M' N H locs → W p l e room_1 s m #[Value.ref b] below meth c H locs (33 + k0) (747 + 6 * k0) (lw_Z below #[Value.ref b] s) (F0 m 484 ls (.int k :: [])) := by
    clear hw
    intro H locs hw
    refine lv_istore (lv' := [(5, .int k), (0, .ref b), (1, .ref (A 0)), (2, .ref (B 0)), (3, .ref o), (4, .int x4)]) hx hb d_L_law_484 hl (by decide) rfl (fun ls hl => ?_)
    refine lv_aload_n hx hb d_L_law_486 rfl (lv_at hl 3 rfl) ?_
    refine kb_calli (wc := wM B E N) (wr := wH o cO (if k = 0 then vp_updL f 0 r.toInt64 else f) A G M') (w1 := wM B E N') (ws' := wH o cO (if k = 0 then vp_updL f 0 r.toInt64 else f) A G M' ++ wM B E N') (va_runV (As := []) (rest := []) ⟨hx, hb, hml, hown, htt⟩ (c_M_moves l D B E N _ _ H.size hf2) ⟨callB_of 0 htt (wsLaw_M mM_127) rfl rfl rfl (htm _ mM_0) (htl _ mL_70) q_M_moves ⟨by show 1 + 1 ≤ 2048; omega, by show 8 + (1 + 11) + 23 ≤ 84000; omega⟩, htm _ mM_125, htm _ mM_126⟩ (kb_preVh (fun _ _ _ _ h => h) hw [0, 1, 2, 3, 4, 5, 6, 7, 8, 9, 10, 11, 12, 13] [0, 1, 2, 3, 4, 5, 6, 7, 8, 9, 10, 11, 12] rfl rfl (by decide) rfl (fun _ _ _ => trivial) 0 (wM_0 B E _) rfl) rfl rfl hl.1 rfl (lv_room (Nat.le_of_ble_eq_true rfl)) d_L_law_487 ⟨by show _ + 0 ≤ 628987; omega, by show _ + 0 ≤ 7209143; omega⟩) hw [0, 1, 2, 3, 4, 5, 6, 7, 8, 9, 10, 11, 12, 13] [14, 15, 16, 17, 18, 19, 20, 21, 22, 23, 24, 25, 26, 27, 28, 29, 30, 31] rfl rfl (by decide) (by decide) rfl (fun H locs hw => ?_)
    refine W.cs (cells' := 33 + k0) (slots' := 747 + 6 * k0) rfl rfl ?_
    have hw := lwK_swap hw
    refine lv_istore (lv' := [(6, .int b2), (5, .int k), (0, .ref b), (1, .ref (A 0)), (2, .ref (B 0)), (3, .ref o), (4, .int x4)]) hx hb d_L_law_490 hl (by decide) rfl (fun ls hl => ?_)
    refine lv_aload_n hx hb d_L_law_492 rfl (lv_at hl 4 rfl) ?_
    refine kb_calli (wc := wM B E N') (wr := wH o cO (if k = 0 then vp_updL f 0 r.toInt64 else f) A G M') (w1 := wM B E N') (ws' := wH o cO (if k = 0 then vp_updL f 0 r.toInt64 else f) A G M' ++ wM B E N') (va_runV (As := []) (rest := []) ⟨hx, hb, hml, hown, htt⟩ (c_M_thrown l D B E N' _ _ H.size (show f_M_thrown N' = some (N' 0 0, N') from rfl)) ⟨callB_of 0 htt (wsLaw_M mM_51) rfl rfl rfl (htm _ mM_0) (htl _ mL_62) q_M_thrown ⟨by show 0 + 1 ≤ 2048; omega, by show 8 + (1 + 11) + 0 ≤ 84000; omega⟩, htm _ mM_49, htm _ mM_50⟩ (kb_preVh (fun _ _ _ _ h => h) hw [0, 1, 2, 3, 4, 5, 6, 7, 8, 9, 10, 11, 12, 13] [0, 1, 2, 3, 4, 5, 6, 7, 8, 9, 10, 11, 12] rfl rfl (by decide) rfl (fun _ _ _ => trivial) 0 (wM_0 B E _) rfl) rfl rfl hl.1 rfl (lv_room (Nat.le_of_ble_eq_true rfl)) d_L_law_493 ⟨by show _ + 0 ≤ 628987; omega, by show _ + 0 ≤ 7209143; omega⟩) hw [0, 1, 2, 3, 4, 5, 6, 7, 8, 9, 10, 11, 12, 13] [14, 15, 16, 17, 18, 19, 20, 21, 22, 23, 24, 25, 26, 27, 28, 29, 30, 31] rfl rfl (by decide) (by decide) rfl (fun H locs hw => ?_)
    refine W.cs (cells' := 33 + k0) (slots' := 747 + 6 * k0) rfl rfl ?_
    have hw := lwK_swap hw
    refine lv_iload hx hb d_L_law_496 (lv_at hl 1 rfl) ?_
    refine lv_icmp_eq (tgt := 503) hx hb d_L_law_498 (by decide) (fun cq => ?_) (fun cq => ?_)
    · refine lv_iload hx hb d_L_law_503 (lv_at hl 1 rfl) ?_
      refine lv_if_ne (tgt := 520) hx hb d_L_law_505 (by decide) (fun ck => ?_) (fun ck => ?_)
      · refine lv_goto (tgt := 883) hx hb d_L_law_520 (by decide) ?_
        exact next _ _ _ _ _ _ hI hw (lv_sub hl [2, 3, 4, 5, 6] rfl)
      · refine lv_aload_n hx hb d_L_law_508 rfl (lv_at hl 5 rfl) ?_
        refine lv_iconst (v := 0) hx hb d_L_law_509 (by decide) ?_
        refine va_lald hx hb hw.1 hw.2.1 14 13 rfl rfl (show ¬ ((0 : Int32) < 0 ∨ 1 ≤ (0 : Int32).toNatClampNeg) by decide) d_L_law_510 ?_
        refine lv_iload hx hb d_L_law_511 (lv_at hl 0 rfl) ?_
        refine lv_i2l (v := b2.toInt64) hx hb d_L_law_513 rfl ?_
        refine W.lcmp hx hb d_L_law_514 ?_
        refine lv_if_eq (tgt := 520) hx hb d_L_law_515 (by decide) (fun cq => ?_) (fun cq => ?_)
        · refine lv_goto (tgt := 883) hx hb d_L_law_520 (by decide) ?_
          exact next _ _ _ _ _ _ hI hw (lv_sub hl [2, 3, 4, 5, 6] rfl)
        · exact absurd (by rw [show (if k = 0 then vp_updL f 0 r.toInt64 else f) (Int32.toNatClampNeg 0) = r.toInt64 from by rw [if_pos ck]; rfl, hrb ck]; exact lg_cmp_self _) cq
    · exact absurd hth0 cq
  rcases hoc with ⟨h, hk0⟩ | ⟨j, x, hj, h, hk0⟩
  · subst hk0
    refine kb_calli (wc := wH o cO f A G M) (wr := wM B E N) (w1 := wH o cO (vp_updL f 0 r.toInt64) A G M') (ws' := wL o cO (vp_updL f 0 r.toInt64) A G M' B E N) (vx_runSW (As := [.ref (A 0), .ref o]) (rest := []) ⟨hx, hb, hml, hown, htt⟩ (n_L_moves l D o cO f A G M r M' H.size h) (vx_cwSW 2 htt (wsLaw_S mL_32 mL_33 mL_0 mL_34) rfl rfl rfl q_L_moves ⟨by show 2 + 1 ≤ 2048; omega, by show 8 + (3 + 11) + 40 ≤ 84000; omega⟩) (kb_preSh nnC_b hw [14, 15, 16, 17, 18, 19, 20, 21, 22, 23, 24, 25, 26, 27, 28, 29, 30, 31] [13, 14, 15, 16, 17, 18, 19, 20, 21, 22, 23, 24, 25, 26] rfl rfl (by decide) rfl (fun U hU hW => nnC_warm s U hW hE.1.1)) rfl rfl hl.1 rfl (lv_room (Nat.le_of_ble_eq_true rfl)) d_L_law_481 ⟨by show _ + 0 ≤ 628987; omega, by show _ + 0 ≤ 7209143; omega⟩) hw [14, 15, 16, 17, 18, 19, 20, 21, 22, 23, 24, 25, 26, 27, 28, 29, 30, 31] [0, 1, 2, 3, 4, 5, 6, 7, 8, 9, 10, 11, 12, 13] rfl rfl (by decide) (by decide) rfl (fun H locs hw => ?_)
    refine W.widen (k := 33 + k0) (n := 747 + 6 * k0) (by omega) (by omega) ?_
    exact key H locs hw
  · match j, hj with
    | 0, hj =>
      cases hj
      refine kb_calli (wc := wH o cO f A G M) (wr := wM B E N) (w1 := wH o cO f A G M') (ws' := wL o cO f A G M' B E N) (vx_runSW (As := [.ref (A 0), .ref o]) (rest := []) ⟨hx, hb, hml, hown, htt⟩ (t0_L_moves l hlt D o cO f A G M M' H.size h) (vx_cwSW 2 htt (wsLaw_S mL_32 mL_33 mL_0 mL_34) rfl rfl rfl q_L_moves ⟨by show 10 + 1 ≤ 2048; omega, by show 8 + (3 + 11) + 160 ≤ 84000; omega⟩) (kb_preSh (NN' := eH (va_A (wH o cO f A G M) H.size)) eH_b hw [14, 15, 16, 17, 18, 19, 20, 21, 22, 23, 24, 25, 26, 27, 28, 29, 30, 31] [13, 14, 15, 16, 17, 18, 19, 20, 21, 22, 23, 24, 25, 26] rfl rfl (by decide) rfl (fun U hU hW => ⟨eeC_call hE.1 hW hU hw.2.2.2.1 (va_free hw.2.2.1 hw.2.2.2.1 hw.2.2.2.2 [14, 15, 16, 17, 18, 19, 20, 21, 22, 23, 24, 25, 26, 27, 28, 29, 30, 31] rfl), ncX_al hW.alike hE.2⟩)) rfl rfl hl.1 rfl (lv_room (Nat.le_of_ble_eq_true rfl)) d_L_law_481 ⟨by show _ + 1 ≤ 628987; omega, by show _ + 6 ≤ 7209143; omega⟩) hw [14, 15, 16, 17, 18, 19, 20, 21, 22, 23, 24, 25, 26, 27, 28, 29, 30, 31] [0, 1, 2, 3, 4, 5, 6, 7, 8, 9, 10, 11, 12, 13] rfl rfl (by decide) (by decide) rfl (fun H locs hw => ?_)
      refine W.widen (k := 33 + k0) (n := 747 + 6 * k0) (by omega) (by omega) ?_
      subst hk0
      exact key H locs hw
    | j + 1, hj => simp at hj
def op_move (Inv : (Nat → Nat → Int32) → (Nat → Nat → Int32) → Prop) : Prop := ∀ (x1 x2 : Int32) (M N : (Nat → Nat → Int32)), Inv M N → ∃ (k r : Int32) (M' : (Nat → Nat → Int32)) (b : Int32) (N' : (Nat → Nat → Int32)), kb_oc (f_P_move x1 x2 M) (x_P_move x1 x2 M) [1, 2, 3] k r M' ∧ f_M_move x1 x2 N = some (b, N') ∧ N' 0 0 = k ∧ (k = 0 → r = b) ∧ Inv M' N'
set_option maxHeartbeats 4000000 in
set_option maxRecDepth 100000 in
theorem lc_move {p : Program} {l : Launch} {e : Env} {s : State} {m : MethodId} {below : List Frame} {meth : Method} {c : Code} {D : va_G} {o : Nat} {cO : ClassId} {A : Nat → Nat} {G : Nat → ClassId} {B : Nat → Nat} {E : Nat → ClassId} {b L : Nat} {xs : Nat → Int32} {k0 : Nat} {x4 : Int32} (hL : L ≤ 2048) (hlt : l.stackTraces = false) (C0 : lw_At p s m meth c b L xs) (htt : ∀ w ∈ wsLaw, w.before #[Value.ref b] s = true) (hE : eH (fun q => s.heap.size ≤ q) s) {Inv : (Nat → Nat → Int32) → (Nat → Nat → Int32) → Prop} (hop : op_move Inv) (hk : k0 + 4 ≤ L) (hx4 : x4 = nI k0)
    {f : Nat → Int64} {M N : (Nat → Nat → Int32)} {H : Heap} {locs : List Loc} {ls : Array Slot} (hI : Inv M N) (hw : lwK D o cO A G B E s f M N H locs) (hl : lv_has ls 7 [(0, .ref b), (1, .ref (A 0)), (2, .ref (B 0)), (3, .ref o), (4, .int x4)])
    (next : ∀ (f : Nat → Int64) (M N : (Nat → Nat → Int32)) (H : Heap) (locs : List Loc) (ls : Array Slot), Inv M N → lwK D o cO A G B E s f M N H locs → lv_has ls 7 [(0, .ref b), (1, .ref (A 0)), (2, .ref (B 0)), (3, .ref o), (4, .int x4)] → W p l e room_1 s m #[Value.ref b] below meth c H locs (33 + k0) (747 + 6 * k0) (lw_Z below #[Value.ref b] s) (F0 m 883 ls [])) : W p l e room_1 s m #[Value.ref b] below meth c H locs (32 + k0) (741 + 6 * k0) (lw_Z below #[Value.ref b] s) (F0 m 523 ls []) := by
  obtain ⟨hx, hb, hr, hml, hown0, hts, hX, hbl, hlocks, hgv⟩ := C0
  have hown : s.vm.findClass "PileLiftsLaw" = some m.cls := hown0
  have hbA : ¬ (fun q : Nat => s.heap.size ≤ q) b := Nat.not_le.mpr hbl
  obtain ⟨hi0, hi1, hi2, hi3⟩ := lw_in hx4 hk hL
  have hth : ∀ w ∈ wsH, w.before #[Value.ref b] s = true := fun w h => htt w (List.mem_append_left _ h)
  have htl : ∀ w ∈ wsL, w.before #[Value.ref b] s = true := fun w h => hth w (List.mem_append_left _ h)
  have htw : ∀ w ∈ wsC, w.before #[Value.ref b] s = true := fun w h => hth w (List.mem_append_right _ (List.mem_append_left _ h))
  have htm : ∀ w ∈ wsM, w.before #[Value.ref b] s = true := fun w h => htt w (List.mem_append_right _ h)
  obtain ⟨k, r, M', b2, N', hoc, hf2, hth0, hrb, hI⟩ := hop (xs (x4 + 1).toNatClampNeg) (xs (x4 + 2).toNatClampNeg) M N hI
  refine lv_aload_n hx hb d_L_law_523 rfl (lv_at hl 1 rfl) ?_
  refine lv_aload_n hx hb d_L_law_524 rfl (lv_at hl 0 rfl) ?_
  refine lv_iload hx hb d_L_law_525 (lv_at hl 4 rfl) ?_
  refine lv_iconst (v := 1) hx hb d_L_law_527 (by decide) ?_
  refine lv_iadd hx hb d_L_law_528 ?_
  refine va_sld hx hb hX hbl hbA hw.2.2.2.1 hi1 d_L_law_529 ?_
  refine lv_aload_n hx hb d_L_law_530 rfl (lv_at hl 0 rfl) ?_
  refine lv_iload hx hb d_L_law_531 (lv_at hl 4 rfl) ?_
  refine lv_iconst (v := 2) hx hb d_L_law_533 (by decide) ?_
  refine lv_iadd hx hb d_L_law_534 ?_
  refine va_sld hx hb hX hbl hbA hw.2.2.2.1 hi2 d_L_law_535 ?_
  refine lv_aload_n hx hb d_L_law_536 rfl (lv_at hl 3 rfl) ?_
  have key : ∀ (H : Heap) (locs : List Loc), lwK D o cO A G B E s (if k = 0 then vp_updL f 0 r.toInt64 else f) M' N H locs → W p l e room_1 s m #[Value.ref b] below meth c H locs (33 + k0) (747 + 6 * k0) (lw_Z below #[Value.ref b] s) (F0 m 540 ls (.int k :: [])) := by
    clear hw
    intro H locs hw
    refine lv_istore (lv' := [(5, .int k), (0, .ref b), (1, .ref (A 0)), (2, .ref (B 0)), (3, .ref o), (4, .int x4)]) hx hb d_L_law_540 hl (by decide) rfl (fun ls hl => ?_)
    refine lv_aload_n hx hb d_L_law_542 rfl (lv_at hl 3 rfl) ?_
    refine lv_aload_n hx hb d_L_law_543 rfl (lv_at hl 1 rfl) ?_
    refine lv_iload hx hb d_L_law_544 (lv_at hl 5 rfl) ?_
    refine lv_iconst (v := 1) hx hb d_L_law_546 (by decide) ?_
    refine lv_iadd hx hb d_L_law_547 ?_
    refine va_sld hx hb hX hbl hbA hw.2.2.2.1 hi1 d_L_law_548 ?_
    refine lv_aload_n hx hb d_L_law_549 rfl (lv_at hl 1 rfl) ?_
    refine lv_iload hx hb d_L_law_550 (lv_at hl 5 rfl) ?_
    refine lv_iconst (v := 2) hx hb d_L_law_552 (by decide) ?_
    refine lv_iadd hx hb d_L_law_553 ?_
    refine va_sld hx hb hX hbl hbA hw.2.2.2.1 hi2 d_L_law_554 ?_
    refine kb_calli (wc := wM B E N) (wr := wH o cO (if k = 0 then vp_updL f 0 r.toInt64 else f) A G M') (w1 := wM B E N') (ws' := wH o cO (if k = 0 then vp_updL f 0 r.toInt64 else f) A G M' ++ wM B E N') (va_runV (As := [.int (xs (x4 + 1).toNatClampNeg), .int (xs (x4 + 2).toNatClampNeg)]) (rest := []) ⟨hx, hb, hml, hown, htt⟩ (c_M_move l D B E (xs (x4 + 1).toNatClampNeg) (xs (x4 + 2).toNatClampNeg) N _ _ H.size hf2) ⟨callB_of 2 htt (wsLaw_M mM_130) rfl rfl rfl (htm _ mM_0) (htl _ mL_71) q_M_move ⟨by show 1 + 1 ≤ 2048; omega, by show 8 + (3 + 11) + 23 ≤ 84000; omega⟩, htm _ mM_128, htm _ mM_129⟩ (kb_preVh (fun _ _ _ _ h => h) hw [0, 1, 2, 3, 4, 5, 6, 7, 8, 9, 10, 11, 12, 13] [0, 1, 2, 3, 4, 5, 6, 7, 8, 9, 10, 11, 12] rfl rfl (by decide) rfl (fun _ _ _ => trivial) 0 (wM_0 B E _) rfl) rfl rfl hl.1 rfl (lv_room (Nat.le_of_ble_eq_true rfl)) d_L_law_555 ⟨by show _ + 0 ≤ 628987; omega, by show _ + 0 ≤ 7209143; omega⟩) hw [0, 1, 2, 3, 4, 5, 6, 7, 8, 9, 10, 11, 12, 13] [14, 15, 16, 17, 18, 19, 20, 21, 22, 23, 24, 25, 26, 27, 28, 29, 30, 31] rfl rfl (by decide) (by decide) rfl (fun H locs hw => ?_)
    refine W.cs (cells' := 33 + k0) (slots' := 747 + 6 * k0) rfl rfl ?_
    have hw := lwK_swap hw
    refine lv_istore (lv' := [(6, .int b2), (5, .int k), (0, .ref b), (1, .ref (A 0)), (2, .ref (B 0)), (3, .ref o), (4, .int x4)]) hx hb d_L_law_558 hl (by decide) rfl (fun ls hl => ?_)
    refine lv_aload_n hx hb d_L_law_560 rfl (lv_at hl 4 rfl) ?_
    refine kb_calli (wc := wM B E N') (wr := wH o cO (if k = 0 then vp_updL f 0 r.toInt64 else f) A G M') (w1 := wM B E N') (ws' := wH o cO (if k = 0 then vp_updL f 0 r.toInt64 else f) A G M' ++ wM B E N') (va_runV (As := []) (rest := []) ⟨hx, hb, hml, hown, htt⟩ (c_M_thrown l D B E N' _ _ H.size (show f_M_thrown N' = some (N' 0 0, N') from rfl)) ⟨callB_of 0 htt (wsLaw_M mM_51) rfl rfl rfl (htm _ mM_0) (htl _ mL_62) q_M_thrown ⟨by show 0 + 1 ≤ 2048; omega, by show 8 + (1 + 11) + 0 ≤ 84000; omega⟩, htm _ mM_49, htm _ mM_50⟩ (kb_preVh (fun _ _ _ _ h => h) hw [0, 1, 2, 3, 4, 5, 6, 7, 8, 9, 10, 11, 12, 13] [0, 1, 2, 3, 4, 5, 6, 7, 8, 9, 10, 11, 12] rfl rfl (by decide) rfl (fun _ _ _ => trivial) 0 (wM_0 B E _) rfl) rfl rfl hl.1 rfl (lv_room (Nat.le_of_ble_eq_true rfl)) d_L_law_561 ⟨by show _ + 0 ≤ 628987; omega, by show _ + 0 ≤ 7209143; omega⟩) hw [0, 1, 2, 3, 4, 5, 6, 7, 8, 9, 10, 11, 12, 13] [14, 15, 16, 17, 18, 19, 20, 21, 22, 23, 24, 25, 26, 27, 28, 29, 30, 31] rfl rfl (by decide) (by decide) rfl (fun H locs hw => ?_)
    refine W.cs (cells' := 33 + k0) (slots' := 747 + 6 * k0) rfl rfl ?_
    have hw := lwK_swap hw
    refine lv_iload hx hb d_L_law_564 (lv_at hl 1 rfl) ?_
    refine lv_icmp_eq (tgt := 571) hx hb d_L_law_566 (by decide) (fun cq => ?_) (fun cq => ?_)
    · refine lv_iload hx hb d_L_law_571 (lv_at hl 1 rfl) ?_
      refine lv_if_ne (tgt := 588) hx hb d_L_law_573 (by decide) (fun ck => ?_) (fun ck => ?_)
      · refine lv_goto (tgt := 883) hx hb d_L_law_588 (by decide) ?_
        exact next _ _ _ _ _ _ hI hw (lv_sub hl [2, 3, 4, 5, 6] rfl)
      · refine lv_aload_n hx hb d_L_law_576 rfl (lv_at hl 5 rfl) ?_
        refine lv_iconst (v := 0) hx hb d_L_law_577 (by decide) ?_
        refine va_lald hx hb hw.1 hw.2.1 14 13 rfl rfl (show ¬ ((0 : Int32) < 0 ∨ 1 ≤ (0 : Int32).toNatClampNeg) by decide) d_L_law_578 ?_
        refine lv_iload hx hb d_L_law_579 (lv_at hl 0 rfl) ?_
        refine lv_i2l (v := b2.toInt64) hx hb d_L_law_581 rfl ?_
        refine W.lcmp hx hb d_L_law_582 ?_
        refine lv_if_eq (tgt := 588) hx hb d_L_law_583 (by decide) (fun cq => ?_) (fun cq => ?_)
        · refine lv_goto (tgt := 883) hx hb d_L_law_588 (by decide) ?_
          exact next _ _ _ _ _ _ hI hw (lv_sub hl [2, 3, 4, 5, 6] rfl)
        · exact absurd (by rw [show (if k = 0 then vp_updL f 0 r.toInt64 else f) (Int32.toNatClampNeg 0) = r.toInt64 from by rw [if_pos ck]; rfl, hrb ck]; exact lg_cmp_self _) cq
    · exact absurd hth0 cq
  rcases hoc with ⟨h, hk0⟩ | ⟨j, x, hj, h, hk0⟩
  · subst hk0
    refine kb_calli (wc := wH o cO f A G M) (wr := wM B E N) (w1 := wH o cO (vp_updL f 0 r.toInt64) A G M') (ws' := wL o cO (vp_updL f 0 r.toInt64) A G M' B E N) (vx_runSW (As := [.ref (A 0), .int (xs (x4 + 1).toNatClampNeg), .int (xs (x4 + 2).toNatClampNeg), .ref o]) (rest := []) ⟨hx, hb, hml, hown, htt⟩ (n_L_move l D o cO f A G (xs (x4 + 1).toNatClampNeg) (xs (x4 + 2).toNatClampNeg) M r M' H.size h) (vx_cwSW 4 htt (wsLaw_S mL_36 mL_37 mL_0 mL_38) rfl rfl rfl q_L_move ⟨by show 2 + 1 ≤ 2048; omega, by show 8 + (5 + 11) + 44 ≤ 84000; omega⟩) (kb_preSh nnC_b hw [14, 15, 16, 17, 18, 19, 20, 21, 22, 23, 24, 25, 26, 27, 28, 29, 30, 31] [13, 14, 15, 16, 17, 18, 19, 20, 21, 22, 23, 24, 25, 26] rfl rfl (by decide) rfl (fun U hU hW => nnC_warm s U hW hE.1.1)) rfl rfl hl.1 rfl (lv_room (Nat.le_of_ble_eq_true rfl)) d_L_law_537 ⟨by show _ + 0 ≤ 628987; omega, by show _ + 0 ≤ 7209143; omega⟩) hw [14, 15, 16, 17, 18, 19, 20, 21, 22, 23, 24, 25, 26, 27, 28, 29, 30, 31] [0, 1, 2, 3, 4, 5, 6, 7, 8, 9, 10, 11, 12, 13] rfl rfl (by decide) (by decide) rfl (fun H locs hw => ?_)
    refine W.widen (k := 33 + k0) (n := 747 + 6 * k0) (by omega) (by omega) ?_
    exact key H locs hw
  · match j, hj with
    | 0, hj =>
      cases hj
      refine kb_calli (wc := wH o cO f A G M) (wr := wM B E N) (w1 := wH o cO f A G M') (ws' := wL o cO f A G M' B E N) (vx_runSW (As := [.ref (A 0), .int (xs (x4 + 1).toNatClampNeg), .int (xs (x4 + 2).toNatClampNeg), .ref o]) (rest := []) ⟨hx, hb, hml, hown, htt⟩ (t0_L_move l hlt D o cO f A G (xs (x4 + 1).toNatClampNeg) (xs (x4 + 2).toNatClampNeg) M M' H.size h) (vx_cwSW 4 htt (wsLaw_S mL_36 mL_37 mL_0 mL_38) rfl rfl rfl q_L_move ⟨by show 10 + 1 ≤ 2048; omega, by show 8 + (5 + 11) + 162 ≤ 84000; omega⟩) (kb_preSh (NN' := eH (va_A (wH o cO f A G M) H.size)) eH_b hw [14, 15, 16, 17, 18, 19, 20, 21, 22, 23, 24, 25, 26, 27, 28, 29, 30, 31] [13, 14, 15, 16, 17, 18, 19, 20, 21, 22, 23, 24, 25, 26] rfl rfl (by decide) rfl (fun U hU hW => ⟨eeC_call hE.1 hW hU hw.2.2.2.1 (va_free hw.2.2.1 hw.2.2.2.1 hw.2.2.2.2 [14, 15, 16, 17, 18, 19, 20, 21, 22, 23, 24, 25, 26, 27, 28, 29, 30, 31] rfl), ncX_al hW.alike hE.2⟩)) rfl rfl hl.1 rfl (lv_room (Nat.le_of_ble_eq_true rfl)) d_L_law_537 ⟨by show _ + 1 ≤ 628987; omega, by show _ + 6 ≤ 7209143; omega⟩) hw [14, 15, 16, 17, 18, 19, 20, 21, 22, 23, 24, 25, 26, 27, 28, 29, 30, 31] [0, 1, 2, 3, 4, 5, 6, 7, 8, 9, 10, 11, 12, 13] rfl rfl (by decide) (by decide) rfl (fun H locs hw => ?_)
      refine W.widen (k := 33 + k0) (n := 747 + 6 * k0) (by omega) (by omega) ?_
      subst hk0
      exact key H locs hw
    | 1, hj =>
      cases hj
      refine kb_calli (wc := wH o cO f A G M) (wr := wM B E N) (w1 := wH o cO f A G M') (ws' := wL o cO f A G M' B E N) (vx_runSW (As := [.ref (A 0), .int (xs (x4 + 1).toNatClampNeg), .int (xs (x4 + 2).toNatClampNeg), .ref o]) (rest := []) ⟨hx, hb, hml, hown, htt⟩ (t1_L_move l hlt D o cO f A G (xs (x4 + 1).toNatClampNeg) (xs (x4 + 2).toNatClampNeg) M M' H.size h) (vx_cwSW 4 htt (wsLaw_S mL_36 mL_37 mL_0 mL_38) rfl rfl rfl q_L_move ⟨by show 10 + 1 ≤ 2048; omega, by show 8 + (5 + 11) + 162 ≤ 84000; omega⟩) (kb_preSh (NN' := eH (va_A (wH o cO f A G M) H.size)) eH_b hw [14, 15, 16, 17, 18, 19, 20, 21, 22, 23, 24, 25, 26, 27, 28, 29, 30, 31] [13, 14, 15, 16, 17, 18, 19, 20, 21, 22, 23, 24, 25, 26] rfl rfl (by decide) rfl (fun U hU hW => ⟨eeC_call hE.1 hW hU hw.2.2.2.1 (va_free hw.2.2.1 hw.2.2.2.1 hw.2.2.2.2 [14, 15, 16, 17, 18, 19, 20, 21, 22, 23, 24, 25, 26, 27, 28, 29, 30, 31] rfl), ncX_al hW.alike hE.2⟩)) rfl rfl hl.1 rfl (lv_room (Nat.le_of_ble_eq_true rfl)) d_L_law_537 ⟨by show _ + 1 ≤ 628987; omega, by show _ + 6 ≤ 7209143; omega⟩) hw [14, 15, 16, 17, 18, 19, 20, 21, 22, 23, 24, 25, 26, 27, 28, 29, 30, 31] [0, 1, 2, 3, 4, 5, 6, 7, 8, 9, 10, 11, 12, 13] rfl rfl (by decide) (by decide) rfl (fun H locs hw => ?_)
      refine W.widen (k := 33 + k0) (n := 747 + 6 * k0) (by omega) (by omega) ?_
      subst hk0
      exact key H locs hw
    | 2, hj =>
      cases hj
      refine kb_calli (wc := wH o cO f A G M) (wr := wM B E N) (w1 := wH o cO f A G M') (ws' := wL o cO f A G M' B E N) (vx_runSW (As := [.ref (A 0), .int (xs (x4 + 1).toNatClampNeg), .int (xs (x4 + 2).toNatClampNeg), .ref o]) (rest := []) ⟨hx, hb, hml, hown, htt⟩ (t2_L_move l hlt D o cO f A G (xs (x4 + 1).toNatClampNeg) (xs (x4 + 2).toNatClampNeg) M M' H.size h) (vx_cwSW 4 htt (wsLaw_S mL_36 mL_37 mL_0 mL_38) rfl rfl rfl q_L_move ⟨by show 10 + 1 ≤ 2048; omega, by show 8 + (5 + 11) + 162 ≤ 84000; omega⟩) (kb_preSh (NN' := eH (va_A (wH o cO f A G M) H.size)) eH_b hw [14, 15, 16, 17, 18, 19, 20, 21, 22, 23, 24, 25, 26, 27, 28, 29, 30, 31] [13, 14, 15, 16, 17, 18, 19, 20, 21, 22, 23, 24, 25, 26] rfl rfl (by decide) rfl (fun U hU hW => ⟨eeC_call hE.1 hW hU hw.2.2.2.1 (va_free hw.2.2.1 hw.2.2.2.1 hw.2.2.2.2 [14, 15, 16, 17, 18, 19, 20, 21, 22, 23, 24, 25, 26, 27, 28, 29, 30, 31] rfl), ncX_al hW.alike hE.2⟩)) rfl rfl hl.1 rfl (lv_room (Nat.le_of_ble_eq_true rfl)) d_L_law_537 ⟨by show _ + 1 ≤ 628987; omega, by show _ + 6 ≤ 7209143; omega⟩) hw [14, 15, 16, 17, 18, 19, 20, 21, 22, 23, 24, 25, 26, 27, 28, 29, 30, 31] [0, 1, 2, 3, 4, 5, 6, 7, 8, 9, 10, 11, 12, 13] rfl rfl (by decide) (by decide) rfl (fun H locs hw => ?_)
      refine W.widen (k := 33 + k0) (n := 747 + 6 * k0) (by omega) (by omega) ?_
      subst hk0
      exact key H locs hw
    | j + 3, hj => simp at hj
def op_replay (Inv : (Nat → Nat → Int32) → (Nat → Nat → Int32) → Prop) : Prop := ∀ (x1 : Int32) (M N : (Nat → Nat → Int32)), Inv M N → ∃ (k r : Int32) (M' : (Nat → Nat → Int32)) (b : Int32) (N' : (Nat → Nat → Int32)), kb_oc (f_P_replay x1 M) (x_P_replay x1 M) [2, 3] k r M' ∧ f_M_replay x1 N = some (b, N') ∧ N' 0 0 = k ∧ (k = 0 → r = b) ∧ Inv M' N'
set_option maxHeartbeats 4000000 in
set_option maxRecDepth 100000 in
theorem lc_replay {p : Program} {l : Launch} {e : Env} {s : State} {m : MethodId} {below : List Frame} {meth : Method} {c : Code} {D : va_G} {o : Nat} {cO : ClassId} {A : Nat → Nat} {G : Nat → ClassId} {B : Nat → Nat} {E : Nat → ClassId} {b L : Nat} {xs : Nat → Int32} {k0 : Nat} {x4 : Int32} (hL : L ≤ 2048) (hlt : l.stackTraces = false) (C0 : lw_At p s m meth c b L xs) (htt : ∀ w ∈ wsLaw, w.before #[Value.ref b] s = true) (hE : eH (fun q => s.heap.size ≤ q) s) {Inv : (Nat → Nat → Int32) → (Nat → Nat → Int32) → Prop} (hop : op_replay Inv) (hk : k0 + 4 ≤ L) (hx4 : x4 = nI k0)
    {f : Nat → Int64} {M N : (Nat → Nat → Int32)} {H : Heap} {locs : List Loc} {ls : Array Slot} (hI : Inv M N) (hw : lwK D o cO A G B E s f M N H locs) (hl : lv_has ls 7 [(0, .ref b), (1, .ref (A 0)), (2, .ref (B 0)), (3, .ref o), (4, .int x4)])
    (next : ∀ (f : Nat → Int64) (M N : (Nat → Nat → Int32)) (H : Heap) (locs : List Loc) (ls : Array Slot), Inv M N → lwK D o cO A G B E s f M N H locs → lv_has ls 7 [(0, .ref b), (1, .ref (A 0)), (2, .ref (B 0)), (3, .ref o), (4, .int x4)] → W p l e room_1 s m #[Value.ref b] below meth c H locs (33 + k0) (747 + 6 * k0) (lw_Z below #[Value.ref b] s) (F0 m 883 ls [])) : W p l e room_1 s m #[Value.ref b] below meth c H locs (32 + k0) (741 + 6 * k0) (lw_Z below #[Value.ref b] s) (F0 m 591 ls []) := by
  obtain ⟨hx, hb, hr, hml, hown0, hts, hX, hbl, hlocks, hgv⟩ := C0
  have hown : s.vm.findClass "PileLiftsLaw" = some m.cls := hown0
  have hbA : ¬ (fun q : Nat => s.heap.size ≤ q) b := Nat.not_le.mpr hbl
  obtain ⟨hi0, hi1, hi2, hi3⟩ := lw_in hx4 hk hL
  have hth : ∀ w ∈ wsH, w.before #[Value.ref b] s = true := fun w h => htt w (List.mem_append_left _ h)
  have htl : ∀ w ∈ wsL, w.before #[Value.ref b] s = true := fun w h => hth w (List.mem_append_left _ h)
  have htw : ∀ w ∈ wsC, w.before #[Value.ref b] s = true := fun w h => hth w (List.mem_append_right _ (List.mem_append_left _ h))
  have htm : ∀ w ∈ wsM, w.before #[Value.ref b] s = true := fun w h => htt w (List.mem_append_right _ h)
  obtain ⟨k, r, M', b2, N', hoc, hf2, hth0, hrb, hI⟩ := hop (xs (x4 + 1).toNatClampNeg) M N hI
  refine lv_aload_n hx hb d_L_law_591 rfl (lv_at hl 1 rfl) ?_
  refine lv_aload_n hx hb d_L_law_592 rfl (lv_at hl 0 rfl) ?_
  refine lv_iload hx hb d_L_law_593 (lv_at hl 4 rfl) ?_
  refine lv_iconst (v := 1) hx hb d_L_law_595 (by decide) ?_
  refine lv_iadd hx hb d_L_law_596 ?_
  refine va_sld hx hb hX hbl hbA hw.2.2.2.1 hi1 d_L_law_597 ?_
  refine lv_aload_n hx hb d_L_law_598 rfl (lv_at hl 3 rfl) ?_
  have key : ∀ (H : Heap) (locs : List Loc), lwK D o cO A G B E s (if k = 0 then vp_updL f 0 r.toInt64 else f) M' N H locs → W p l e room_1 s m #[Value.ref b] below meth c H locs (33 + k0) (747 + 6 * k0) (lw_Z below #[Value.ref b] s) (F0 m 602 ls (.int k :: [])) := by
    clear hw
    intro H locs hw
    refine lv_istore (lv' := [(5, .int k), (0, .ref b), (1, .ref (A 0)), (2, .ref (B 0)), (3, .ref o), (4, .int x4)]) hx hb d_L_law_602 hl (by decide) rfl (fun ls hl => ?_)
    refine lv_aload_n hx hb d_L_law_604 rfl (lv_at hl 3 rfl) ?_
    refine lv_aload_n hx hb d_L_law_605 rfl (lv_at hl 1 rfl) ?_
    refine lv_iload hx hb d_L_law_606 (lv_at hl 5 rfl) ?_
    refine lv_iconst (v := 1) hx hb d_L_law_608 (by decide) ?_
    refine lv_iadd hx hb d_L_law_609 ?_
    refine va_sld hx hb hX hbl hbA hw.2.2.2.1 hi1 d_L_law_610 ?_
    refine kb_calli (wc := wM B E N) (wr := wH o cO (if k = 0 then vp_updL f 0 r.toInt64 else f) A G M') (w1 := wM B E N') (ws' := wH o cO (if k = 0 then vp_updL f 0 r.toInt64 else f) A G M' ++ wM B E N') (va_runV (As := [.int (xs (x4 + 1).toNatClampNeg)]) (rest := []) ⟨hx, hb, hml, hown, htt⟩ (c_M_replay l D B E (xs (x4 + 1).toNatClampNeg) N _ _ H.size hf2) ⟨callB_of 1 htt (wsLaw_M mM_133) rfl rfl rfl (htm _ mM_0) (htl _ mL_72) q_M_replay ⟨by show 3 + 1 ≤ 2048; omega, by show 8 + (4 + 11) + 68 ≤ 84000; omega⟩, htm _ mM_131, htm _ mM_132⟩ (kb_preVh (fun _ _ _ _ h => h) hw [0, 1, 2, 3, 4, 5, 6, 7, 8, 9, 10, 11, 12, 13] [0, 1, 2, 3, 4, 5, 6, 7, 8, 9, 10, 11, 12] rfl rfl (by decide) rfl (fun _ _ _ => trivial) 0 (wM_0 B E _) rfl) rfl rfl hl.1 rfl (lv_room (Nat.le_of_ble_eq_true rfl)) d_L_law_611 ⟨by show _ + 0 ≤ 628987; omega, by show _ + 0 ≤ 7209143; omega⟩) hw [0, 1, 2, 3, 4, 5, 6, 7, 8, 9, 10, 11, 12, 13] [14, 15, 16, 17, 18, 19, 20, 21, 22, 23, 24, 25, 26, 27, 28, 29, 30, 31] rfl rfl (by decide) (by decide) rfl (fun H locs hw => ?_)
    refine W.cs (cells' := 33 + k0) (slots' := 747 + 6 * k0) rfl rfl ?_
    have hw := lwK_swap hw
    refine lv_istore (lv' := [(6, .int b2), (5, .int k), (0, .ref b), (1, .ref (A 0)), (2, .ref (B 0)), (3, .ref o), (4, .int x4)]) hx hb d_L_law_614 hl (by decide) rfl (fun ls hl => ?_)
    refine lv_aload_n hx hb d_L_law_616 rfl (lv_at hl 4 rfl) ?_
    refine kb_calli (wc := wM B E N') (wr := wH o cO (if k = 0 then vp_updL f 0 r.toInt64 else f) A G M') (w1 := wM B E N') (ws' := wH o cO (if k = 0 then vp_updL f 0 r.toInt64 else f) A G M' ++ wM B E N') (va_runV (As := []) (rest := []) ⟨hx, hb, hml, hown, htt⟩ (c_M_thrown l D B E N' _ _ H.size (show f_M_thrown N' = some (N' 0 0, N') from rfl)) ⟨callB_of 0 htt (wsLaw_M mM_51) rfl rfl rfl (htm _ mM_0) (htl _ mL_62) q_M_thrown ⟨by show 0 + 1 ≤ 2048; omega, by show 8 + (1 + 11) + 0 ≤ 84000; omega⟩, htm _ mM_49, htm _ mM_50⟩ (kb_preVh (fun _ _ _ _ h => h) hw [0, 1, 2, 3, 4, 5, 6, 7, 8, 9, 10, 11, 12, 13] [0, 1, 2, 3, 4, 5, 6, 7, 8, 9, 10, 11, 12] rfl rfl (by decide) rfl (fun _ _ _ => trivial) 0 (wM_0 B E _) rfl) rfl rfl hl.1 rfl (lv_room (Nat.le_of_ble_eq_true rfl)) d_L_law_617 ⟨by show _ + 0 ≤ 628987; omega, by show _ + 0 ≤ 7209143; omega⟩) hw [0, 1, 2, 3, 4, 5, 6, 7, 8, 9, 10, 11, 12, 13] [14, 15, 16, 17, 18, 19, 20, 21, 22, 23, 24, 25, 26, 27, 28, 29, 30, 31] rfl rfl (by decide) (by decide) rfl (fun H locs hw => ?_)
    refine W.cs (cells' := 33 + k0) (slots' := 747 + 6 * k0) rfl rfl ?_
    have hw := lwK_swap hw
    refine lv_iload hx hb d_L_law_620 (lv_at hl 1 rfl) ?_
    refine lv_icmp_eq (tgt := 627) hx hb d_L_law_622 (by decide) (fun cq => ?_) (fun cq => ?_)
    · refine lv_iload hx hb d_L_law_627 (lv_at hl 1 rfl) ?_
      refine lv_if_ne (tgt := 644) hx hb d_L_law_629 (by decide) (fun ck => ?_) (fun ck => ?_)
      · refine lv_goto (tgt := 883) hx hb d_L_law_644 (by decide) ?_
        exact next _ _ _ _ _ _ hI hw (lv_sub hl [2, 3, 4, 5, 6] rfl)
      · refine lv_aload_n hx hb d_L_law_632 rfl (lv_at hl 5 rfl) ?_
        refine lv_iconst (v := 0) hx hb d_L_law_633 (by decide) ?_
        refine va_lald hx hb hw.1 hw.2.1 14 13 rfl rfl (show ¬ ((0 : Int32) < 0 ∨ 1 ≤ (0 : Int32).toNatClampNeg) by decide) d_L_law_634 ?_
        refine lv_iload hx hb d_L_law_635 (lv_at hl 0 rfl) ?_
        refine lv_i2l (v := b2.toInt64) hx hb d_L_law_637 rfl ?_
        refine W.lcmp hx hb d_L_law_638 ?_
        refine lv_if_eq (tgt := 644) hx hb d_L_law_639 (by decide) (fun cq => ?_) (fun cq => ?_)
        · refine lv_goto (tgt := 883) hx hb d_L_law_644 (by decide) ?_
          exact next _ _ _ _ _ _ hI hw (lv_sub hl [2, 3, 4, 5, 6] rfl)
        · exact absurd (by rw [show (if k = 0 then vp_updL f 0 r.toInt64 else f) (Int32.toNatClampNeg 0) = r.toInt64 from by rw [if_pos ck]; rfl, hrb ck]; exact lg_cmp_self _) cq
    · exact absurd hth0 cq
  rcases hoc with ⟨h, hk0⟩ | ⟨j, x, hj, h, hk0⟩
  · subst hk0
    refine kb_calli (wc := wH o cO f A G M) (wr := wM B E N) (w1 := wH o cO (vp_updL f 0 r.toInt64) A G M') (ws' := wL o cO (vp_updL f 0 r.toInt64) A G M' B E N) (vx_runSW (As := [.ref (A 0), .int (xs (x4 + 1).toNatClampNeg), .ref o]) (rest := []) ⟨hx, hb, hml, hown, htt⟩ (n_L_replay l D o cO f A G (xs (x4 + 1).toNatClampNeg) M r M' H.size h) (vx_cwSW 3 htt (wsLaw_S mL_40 mL_41 mL_0 mL_42) rfl rfl rfl q_L_replay ⟨by show 4 + 1 ≤ 2048; omega, by show 8 + (4 + 11) + 89 ≤ 84000; omega⟩) (kb_preSh nnC_b hw [14, 15, 16, 17, 18, 19, 20, 21, 22, 23, 24, 25, 26, 27, 28, 29, 30, 31] [13, 14, 15, 16, 17, 18, 19, 20, 21, 22, 23, 24, 25, 26] rfl rfl (by decide) rfl (fun U hU hW => nnC_warm s U hW hE.1.1)) rfl rfl hl.1 rfl (lv_room (Nat.le_of_ble_eq_true rfl)) d_L_law_599 ⟨by show _ + 0 ≤ 628987; omega, by show _ + 0 ≤ 7209143; omega⟩) hw [14, 15, 16, 17, 18, 19, 20, 21, 22, 23, 24, 25, 26, 27, 28, 29, 30, 31] [0, 1, 2, 3, 4, 5, 6, 7, 8, 9, 10, 11, 12, 13] rfl rfl (by decide) (by decide) rfl (fun H locs hw => ?_)
    refine W.widen (k := 33 + k0) (n := 747 + 6 * k0) (by omega) (by omega) ?_
    exact key H locs hw
  · match j, hj with
    | 0, hj =>
      cases hj
      refine kb_calli (wc := wH o cO f A G M) (wr := wM B E N) (w1 := wH o cO f A G M') (ws' := wL o cO f A G M' B E N) (vx_runSW (As := [.ref (A 0), .int (xs (x4 + 1).toNatClampNeg), .ref o]) (rest := []) ⟨hx, hb, hml, hown, htt⟩ (t0_L_replay l hlt D o cO f A G (xs (x4 + 1).toNatClampNeg) M M' H.size h) (vx_cwSW 3 htt (wsLaw_S mL_40 mL_41 mL_0 mL_42) rfl rfl rfl q_L_replay ⟨by show 10 + 1 ≤ 2048; omega, by show 8 + (4 + 11) + 161 ≤ 84000; omega⟩) (kb_preSh (NN' := eH (va_A (wH o cO f A G M) H.size)) eH_b hw [14, 15, 16, 17, 18, 19, 20, 21, 22, 23, 24, 25, 26, 27, 28, 29, 30, 31] [13, 14, 15, 16, 17, 18, 19, 20, 21, 22, 23, 24, 25, 26] rfl rfl (by decide) rfl (fun U hU hW => ⟨eeC_call hE.1 hW hU hw.2.2.2.1 (va_free hw.2.2.1 hw.2.2.2.1 hw.2.2.2.2 [14, 15, 16, 17, 18, 19, 20, 21, 22, 23, 24, 25, 26, 27, 28, 29, 30, 31] rfl), ncX_al hW.alike hE.2⟩)) rfl rfl hl.1 rfl (lv_room (Nat.le_of_ble_eq_true rfl)) d_L_law_599 ⟨by show _ + 1 ≤ 628987; omega, by show _ + 6 ≤ 7209143; omega⟩) hw [14, 15, 16, 17, 18, 19, 20, 21, 22, 23, 24, 25, 26, 27, 28, 29, 30, 31] [0, 1, 2, 3, 4, 5, 6, 7, 8, 9, 10, 11, 12, 13] rfl rfl (by decide) (by decide) rfl (fun H locs hw => ?_)
      refine W.widen (k := 33 + k0) (n := 747 + 6 * k0) (by omega) (by omega) ?_
      subst hk0
      exact key H locs hw
    | 1, hj =>
      cases hj
      refine kb_calli (wc := wH o cO f A G M) (wr := wM B E N) (w1 := wH o cO f A G M') (ws' := wL o cO f A G M' B E N) (vx_runSW (As := [.ref (A 0), .int (xs (x4 + 1).toNatClampNeg), .ref o]) (rest := []) ⟨hx, hb, hml, hown, htt⟩ (t1_L_replay l hlt D o cO f A G (xs (x4 + 1).toNatClampNeg) M M' H.size h) (vx_cwSW 3 htt (wsLaw_S mL_40 mL_41 mL_0 mL_42) rfl rfl rfl q_L_replay ⟨by show 10 + 1 ≤ 2048; omega, by show 8 + (4 + 11) + 161 ≤ 84000; omega⟩) (kb_preSh (NN' := eH (va_A (wH o cO f A G M) H.size)) eH_b hw [14, 15, 16, 17, 18, 19, 20, 21, 22, 23, 24, 25, 26, 27, 28, 29, 30, 31] [13, 14, 15, 16, 17, 18, 19, 20, 21, 22, 23, 24, 25, 26] rfl rfl (by decide) rfl (fun U hU hW => ⟨eeC_call hE.1 hW hU hw.2.2.2.1 (va_free hw.2.2.1 hw.2.2.2.1 hw.2.2.2.2 [14, 15, 16, 17, 18, 19, 20, 21, 22, 23, 24, 25, 26, 27, 28, 29, 30, 31] rfl), ncX_al hW.alike hE.2⟩)) rfl rfl hl.1 rfl (lv_room (Nat.le_of_ble_eq_true rfl)) d_L_law_599 ⟨by show _ + 1 ≤ 628987; omega, by show _ + 6 ≤ 7209143; omega⟩) hw [14, 15, 16, 17, 18, 19, 20, 21, 22, 23, 24, 25, 26, 27, 28, 29, 30, 31] [0, 1, 2, 3, 4, 5, 6, 7, 8, 9, 10, 11, 12, 13] rfl rfl (by decide) (by decide) rfl (fun H locs hw => ?_)
      refine W.widen (k := 33 + k0) (n := 747 + 6 * k0) (by omega) (by omega) ?_
      subst hk0
      exact key H locs hw
    | j + 2, hj => simp at hj
def op_at (Inv : (Nat → Nat → Int32) → (Nat → Nat → Int32) → Prop) : Prop := ∀ (x1 x2 : Int32) (M N : (Nat → Nat → Int32)), Inv M N → ∃ (k r : Int32) (M' : (Nat → Nat → Int32)) (b : Int32) (N' : (Nat → Nat → Int32)), kb_oc (f_P_at x1 x2 M) (x_P_at x1 x2 M) [1] k r M' ∧ f_M_at x1 x2 N = some (b, N') ∧ N' 0 0 = k ∧ (k = 0 → r = b) ∧ Inv M' N'
set_option maxHeartbeats 4000000 in
set_option maxRecDepth 100000 in
theorem lc_at {p : Program} {l : Launch} {e : Env} {s : State} {m : MethodId} {below : List Frame} {meth : Method} {c : Code} {D : va_G} {o : Nat} {cO : ClassId} {A : Nat → Nat} {G : Nat → ClassId} {B : Nat → Nat} {E : Nat → ClassId} {b L : Nat} {xs : Nat → Int32} {k0 : Nat} {x4 : Int32} (hL : L ≤ 2048) (hlt : l.stackTraces = false) (C0 : lw_At p s m meth c b L xs) (htt : ∀ w ∈ wsLaw, w.before #[Value.ref b] s = true) (hE : eH (fun q => s.heap.size ≤ q) s) {Inv : (Nat → Nat → Int32) → (Nat → Nat → Int32) → Prop} (hop : op_at Inv) (hk : k0 + 4 ≤ L) (hx4 : x4 = nI k0)
    {f : Nat → Int64} {M N : (Nat → Nat → Int32)} {H : Heap} {locs : List Loc} {ls : Array Slot} (hI : Inv M N) (hw : lwK D o cO A G B E s f M N H locs) (hl : lv_has ls 7 [(0, .ref b), (1, .ref (A 0)), (2, .ref (B 0)), (3, .ref o), (4, .int x4)])
    (next : ∀ (f : Nat → Int64) (M N : (Nat → Nat → Int32)) (H : Heap) (locs : List Loc) (ls : Array Slot), Inv M N → lwK D o cO A G B E s f M N H locs → lv_has ls 7 [(0, .ref b), (1, .ref (A 0)), (2, .ref (B 0)), (3, .ref o), (4, .int x4)] → W p l e room_1 s m #[Value.ref b] below meth c H locs (33 + k0) (747 + 6 * k0) (lw_Z below #[Value.ref b] s) (F0 m 883 ls [])) : W p l e room_1 s m #[Value.ref b] below meth c H locs (32 + k0) (741 + 6 * k0) (lw_Z below #[Value.ref b] s) (F0 m 647 ls []) := by
  obtain ⟨hx, hb, hr, hml, hown0, hts, hX, hbl, hlocks, hgv⟩ := C0
  have hown : s.vm.findClass "PileLiftsLaw" = some m.cls := hown0
  have hbA : ¬ (fun q : Nat => s.heap.size ≤ q) b := Nat.not_le.mpr hbl
  obtain ⟨hi0, hi1, hi2, hi3⟩ := lw_in hx4 hk hL
  have hth : ∀ w ∈ wsH, w.before #[Value.ref b] s = true := fun w h => htt w (List.mem_append_left _ h)
  have htl : ∀ w ∈ wsL, w.before #[Value.ref b] s = true := fun w h => hth w (List.mem_append_left _ h)
  have htw : ∀ w ∈ wsC, w.before #[Value.ref b] s = true := fun w h => hth w (List.mem_append_right _ (List.mem_append_left _ h))
  have htm : ∀ w ∈ wsM, w.before #[Value.ref b] s = true := fun w h => htt w (List.mem_append_right _ h)
  obtain ⟨k, r, M', b2, N', hoc, hf2, hth0, hrb, hI⟩ := hop (xs (x4 + 1).toNatClampNeg) (xs (x4 + 2).toNatClampNeg) M N hI
  refine lv_aload_n hx hb d_L_law_647 rfl (lv_at hl 1 rfl) ?_
  refine lv_aload_n hx hb d_L_law_648 rfl (lv_at hl 0 rfl) ?_
  refine lv_iload hx hb d_L_law_649 (lv_at hl 4 rfl) ?_
  refine lv_iconst (v := 1) hx hb d_L_law_651 (by decide) ?_
  refine lv_iadd hx hb d_L_law_652 ?_
  refine va_sld hx hb hX hbl hbA hw.2.2.2.1 hi1 d_L_law_653 ?_
  refine lv_aload_n hx hb d_L_law_654 rfl (lv_at hl 0 rfl) ?_
  refine lv_iload hx hb d_L_law_655 (lv_at hl 4 rfl) ?_
  refine lv_iconst (v := 2) hx hb d_L_law_657 (by decide) ?_
  refine lv_iadd hx hb d_L_law_658 ?_
  refine va_sld hx hb hX hbl hbA hw.2.2.2.1 hi2 d_L_law_659 ?_
  refine lv_aload_n hx hb d_L_law_660 rfl (lv_at hl 3 rfl) ?_
  have key : ∀ (H : Heap) (locs : List Loc), lwK D o cO A G B E s (if k = 0 then vp_updL f 0 r.toInt64 else f) M' N H locs → W p l e room_1 s m #[Value.ref b] below meth c H locs (33 + k0) (747 + 6 * k0) (lw_Z below #[Value.ref b] s) (F0 m 664 ls (.int k :: [])) := by
    clear hw
    intro H locs hw
    refine lv_istore (lv' := [(5, .int k), (0, .ref b), (1, .ref (A 0)), (2, .ref (B 0)), (3, .ref o), (4, .int x4)]) hx hb d_L_law_664 hl (by decide) rfl (fun ls hl => ?_)
    refine lv_aload_n hx hb d_L_law_666 rfl (lv_at hl 3 rfl) ?_
    refine lv_aload_n hx hb d_L_law_667 rfl (lv_at hl 1 rfl) ?_
    refine lv_iload hx hb d_L_law_668 (lv_at hl 5 rfl) ?_
    refine lv_iconst (v := 1) hx hb d_L_law_670 (by decide) ?_
    refine lv_iadd hx hb d_L_law_671 ?_
    refine va_sld hx hb hX hbl hbA hw.2.2.2.1 hi1 d_L_law_672 ?_
    refine lv_aload_n hx hb d_L_law_673 rfl (lv_at hl 1 rfl) ?_
    refine lv_iload hx hb d_L_law_674 (lv_at hl 5 rfl) ?_
    refine lv_iconst (v := 2) hx hb d_L_law_676 (by decide) ?_
    refine lv_iadd hx hb d_L_law_677 ?_
    refine va_sld hx hb hX hbl hbA hw.2.2.2.1 hi2 d_L_law_678 ?_
    refine kb_calli (wc := wM B E N) (wr := wH o cO (if k = 0 then vp_updL f 0 r.toInt64 else f) A G M') (w1 := wM B E N') (ws' := wH o cO (if k = 0 then vp_updL f 0 r.toInt64 else f) A G M' ++ wM B E N') (va_runV (As := [.int (xs (x4 + 1).toNatClampNeg), .int (xs (x4 + 2).toNatClampNeg)]) (rest := []) ⟨hx, hb, hml, hown, htt⟩ (c_M_at l D B E (xs (x4 + 1).toNatClampNeg) (xs (x4 + 2).toNatClampNeg) N _ _ H.size hf2) ⟨callB_of 2 htt (wsLaw_M mM_136) rfl rfl rfl (htm _ mM_0) (htl _ mL_73) q_M_at ⟨by show 2 + 1 ≤ 2048; omega, by show 8 + (5 + 11) + 47 ≤ 84000; omega⟩, htm _ mM_134, htm _ mM_135⟩ (kb_preVh (fun _ _ _ _ h => h) hw [0, 1, 2, 3, 4, 5, 6, 7, 8, 9, 10, 11, 12, 13] [0, 1, 2, 3, 4, 5, 6, 7, 8, 9, 10, 11, 12] rfl rfl (by decide) rfl (fun _ _ _ => trivial) 0 (wM_0 B E _) rfl) rfl rfl hl.1 rfl (lv_room (Nat.le_of_ble_eq_true rfl)) d_L_law_679 ⟨by show _ + 0 ≤ 628987; omega, by show _ + 0 ≤ 7209143; omega⟩) hw [0, 1, 2, 3, 4, 5, 6, 7, 8, 9, 10, 11, 12, 13] [14, 15, 16, 17, 18, 19, 20, 21, 22, 23, 24, 25, 26, 27, 28, 29, 30, 31] rfl rfl (by decide) (by decide) rfl (fun H locs hw => ?_)
    refine W.cs (cells' := 33 + k0) (slots' := 747 + 6 * k0) rfl rfl ?_
    have hw := lwK_swap hw
    refine lv_istore (lv' := [(6, .int b2), (5, .int k), (0, .ref b), (1, .ref (A 0)), (2, .ref (B 0)), (3, .ref o), (4, .int x4)]) hx hb d_L_law_682 hl (by decide) rfl (fun ls hl => ?_)
    refine lv_aload_n hx hb d_L_law_684 rfl (lv_at hl 4 rfl) ?_
    refine kb_calli (wc := wM B E N') (wr := wH o cO (if k = 0 then vp_updL f 0 r.toInt64 else f) A G M') (w1 := wM B E N') (ws' := wH o cO (if k = 0 then vp_updL f 0 r.toInt64 else f) A G M' ++ wM B E N') (va_runV (As := []) (rest := []) ⟨hx, hb, hml, hown, htt⟩ (c_M_thrown l D B E N' _ _ H.size (show f_M_thrown N' = some (N' 0 0, N') from rfl)) ⟨callB_of 0 htt (wsLaw_M mM_51) rfl rfl rfl (htm _ mM_0) (htl _ mL_62) q_M_thrown ⟨by show 0 + 1 ≤ 2048; omega, by show 8 + (1 + 11) + 0 ≤ 84000; omega⟩, htm _ mM_49, htm _ mM_50⟩ (kb_preVh (fun _ _ _ _ h => h) hw [0, 1, 2, 3, 4, 5, 6, 7, 8, 9, 10, 11, 12, 13] [0, 1, 2, 3, 4, 5, 6, 7, 8, 9, 10, 11, 12] rfl rfl (by decide) rfl (fun _ _ _ => trivial) 0 (wM_0 B E _) rfl) rfl rfl hl.1 rfl (lv_room (Nat.le_of_ble_eq_true rfl)) d_L_law_685 ⟨by show _ + 0 ≤ 628987; omega, by show _ + 0 ≤ 7209143; omega⟩) hw [0, 1, 2, 3, 4, 5, 6, 7, 8, 9, 10, 11, 12, 13] [14, 15, 16, 17, 18, 19, 20, 21, 22, 23, 24, 25, 26, 27, 28, 29, 30, 31] rfl rfl (by decide) (by decide) rfl (fun H locs hw => ?_)
    refine W.cs (cells' := 33 + k0) (slots' := 747 + 6 * k0) rfl rfl ?_
    have hw := lwK_swap hw
    refine lv_iload hx hb d_L_law_688 (lv_at hl 1 rfl) ?_
    refine lv_icmp_eq (tgt := 695) hx hb d_L_law_690 (by decide) (fun cq => ?_) (fun cq => ?_)
    · refine lv_iload hx hb d_L_law_695 (lv_at hl 1 rfl) ?_
      refine lv_if_ne (tgt := 712) hx hb d_L_law_697 (by decide) (fun ck => ?_) (fun ck => ?_)
      · refine lv_goto (tgt := 883) hx hb d_L_law_712 (by decide) ?_
        exact next _ _ _ _ _ _ hI hw (lv_sub hl [2, 3, 4, 5, 6] rfl)
      · refine lv_aload_n hx hb d_L_law_700 rfl (lv_at hl 5 rfl) ?_
        refine lv_iconst (v := 0) hx hb d_L_law_701 (by decide) ?_
        refine va_lald hx hb hw.1 hw.2.1 14 13 rfl rfl (show ¬ ((0 : Int32) < 0 ∨ 1 ≤ (0 : Int32).toNatClampNeg) by decide) d_L_law_702 ?_
        refine lv_iload hx hb d_L_law_703 (lv_at hl 0 rfl) ?_
        refine lv_i2l (v := b2.toInt64) hx hb d_L_law_705 rfl ?_
        refine W.lcmp hx hb d_L_law_706 ?_
        refine lv_if_eq (tgt := 712) hx hb d_L_law_707 (by decide) (fun cq => ?_) (fun cq => ?_)
        · refine lv_goto (tgt := 883) hx hb d_L_law_712 (by decide) ?_
          exact next _ _ _ _ _ _ hI hw (lv_sub hl [2, 3, 4, 5, 6] rfl)
        · exact absurd (by rw [show (if k = 0 then vp_updL f 0 r.toInt64 else f) (Int32.toNatClampNeg 0) = r.toInt64 from by rw [if_pos ck]; rfl, hrb ck]; exact lg_cmp_self _) cq
    · exact absurd hth0 cq
  rcases hoc with ⟨h, hk0⟩ | ⟨j, x, hj, h, hk0⟩
  · subst hk0
    refine kb_calli (wc := wH o cO f A G M) (wr := wM B E N) (w1 := wH o cO (vp_updL f 0 r.toInt64) A G M') (ws' := wL o cO (vp_updL f 0 r.toInt64) A G M' B E N) (vx_runSW (As := [.ref (A 0), .int (xs (x4 + 1).toNatClampNeg), .int (xs (x4 + 2).toNatClampNeg), .ref o]) (rest := []) ⟨hx, hb, hml, hown, htt⟩ (n_L_at l D o cO f A G (xs (x4 + 1).toNatClampNeg) (xs (x4 + 2).toNatClampNeg) M r M' H.size h) (vx_cwSW 4 htt (wsLaw_S mL_44 mL_45 mL_0 mL_46) rfl rfl rfl q_L_at ⟨by show 4 + 1 ≤ 2048; omega, by show 8 + (5 + 11) + 90 ≤ 84000; omega⟩) (kb_preSh nnC_b hw [14, 15, 16, 17, 18, 19, 20, 21, 22, 23, 24, 25, 26, 27, 28, 29, 30, 31] [13, 14, 15, 16, 17, 18, 19, 20, 21, 22, 23, 24, 25, 26] rfl rfl (by decide) rfl (fun U hU hW => nnC_warm s U hW hE.1.1)) rfl rfl hl.1 rfl (lv_room (Nat.le_of_ble_eq_true rfl)) d_L_law_661 ⟨by show _ + 0 ≤ 628987; omega, by show _ + 0 ≤ 7209143; omega⟩) hw [14, 15, 16, 17, 18, 19, 20, 21, 22, 23, 24, 25, 26, 27, 28, 29, 30, 31] [0, 1, 2, 3, 4, 5, 6, 7, 8, 9, 10, 11, 12, 13] rfl rfl (by decide) (by decide) rfl (fun H locs hw => ?_)
    refine W.widen (k := 33 + k0) (n := 747 + 6 * k0) (by omega) (by omega) ?_
    exact key H locs hw
  · match j, hj with
    | 0, hj =>
      cases hj
      refine kb_calli (wc := wH o cO f A G M) (wr := wM B E N) (w1 := wH o cO f A G M') (ws' := wL o cO f A G M' B E N) (vx_runSW (As := [.ref (A 0), .int (xs (x4 + 1).toNatClampNeg), .int (xs (x4 + 2).toNatClampNeg), .ref o]) (rest := []) ⟨hx, hb, hml, hown, htt⟩ (t0_L_at l hlt D o cO f A G (xs (x4 + 1).toNatClampNeg) (xs (x4 + 2).toNatClampNeg) M M' H.size h) (vx_cwSW 4 htt (wsLaw_S mL_44 mL_45 mL_0 mL_46) rfl rfl rfl q_L_at ⟨by show 10 + 1 ≤ 2048; omega, by show 8 + (5 + 11) + 163 ≤ 84000; omega⟩) (kb_preSh (NN' := eH (va_A (wH o cO f A G M) H.size)) eH_b hw [14, 15, 16, 17, 18, 19, 20, 21, 22, 23, 24, 25, 26, 27, 28, 29, 30, 31] [13, 14, 15, 16, 17, 18, 19, 20, 21, 22, 23, 24, 25, 26] rfl rfl (by decide) rfl (fun U hU hW => ⟨eeC_call hE.1 hW hU hw.2.2.2.1 (va_free hw.2.2.1 hw.2.2.2.1 hw.2.2.2.2 [14, 15, 16, 17, 18, 19, 20, 21, 22, 23, 24, 25, 26, 27, 28, 29, 30, 31] rfl), ncX_al hW.alike hE.2⟩)) rfl rfl hl.1 rfl (lv_room (Nat.le_of_ble_eq_true rfl)) d_L_law_661 ⟨by show _ + 1 ≤ 628987; omega, by show _ + 6 ≤ 7209143; omega⟩) hw [14, 15, 16, 17, 18, 19, 20, 21, 22, 23, 24, 25, 26, 27, 28, 29, 30, 31] [0, 1, 2, 3, 4, 5, 6, 7, 8, 9, 10, 11, 12, 13] rfl rfl (by decide) (by decide) rfl (fun H locs hw => ?_)
      refine W.widen (k := 33 + k0) (n := 747 + 6 * k0) (by omega) (by omega) ?_
      subst hk0
      exact key H locs hw
    | j + 1, hj => simp at hj
def op_tidy (Inv : (Nat → Nat → Int32) → (Nat → Nat → Int32) → Prop) : Prop := ∀ (x1 : Int32) (M N : (Nat → Nat → Int32)), Inv M N → ∃ (k r : Int32) (M' : (Nat → Nat → Int32)) (b : Int32) (N' : (Nat → Nat → Int32)), kb_oc (f_P_tidy x1 M) (x_P_tidy x1 M) [3] k r M' ∧ f_M_tidy x1 N = some (b, N') ∧ N' 0 0 = k ∧ (k = 0 → r = b) ∧ Inv M' N'
set_option maxHeartbeats 4000000 in
set_option maxRecDepth 100000 in
theorem lc_tidy {p : Program} {l : Launch} {e : Env} {s : State} {m : MethodId} {below : List Frame} {meth : Method} {c : Code} {D : va_G} {o : Nat} {cO : ClassId} {A : Nat → Nat} {G : Nat → ClassId} {B : Nat → Nat} {E : Nat → ClassId} {b L : Nat} {xs : Nat → Int32} {k0 : Nat} {x4 : Int32} (hL : L ≤ 2048) (hlt : l.stackTraces = false) (C0 : lw_At p s m meth c b L xs) (htt : ∀ w ∈ wsLaw, w.before #[Value.ref b] s = true) (hE : eH (fun q => s.heap.size ≤ q) s) {Inv : (Nat → Nat → Int32) → (Nat → Nat → Int32) → Prop} (hop : op_tidy Inv) (hk : k0 + 4 ≤ L) (hx4 : x4 = nI k0)
    {f : Nat → Int64} {M N : (Nat → Nat → Int32)} {H : Heap} {locs : List Loc} {ls : Array Slot} (hI : Inv M N) (hw : lwK D o cO A G B E s f M N H locs) (hl : lv_has ls 7 [(0, .ref b), (1, .ref (A 0)), (2, .ref (B 0)), (3, .ref o), (4, .int x4)])
    (next : ∀ (f : Nat → Int64) (M N : (Nat → Nat → Int32)) (H : Heap) (locs : List Loc) (ls : Array Slot), Inv M N → lwK D o cO A G B E s f M N H locs → lv_has ls 7 [(0, .ref b), (1, .ref (A 0)), (2, .ref (B 0)), (3, .ref o), (4, .int x4)] → W p l e room_1 s m #[Value.ref b] below meth c H locs (33 + k0) (747 + 6 * k0) (lw_Z below #[Value.ref b] s) (F0 m 883 ls [])) : W p l e room_1 s m #[Value.ref b] below meth c H locs (32 + k0) (741 + 6 * k0) (lw_Z below #[Value.ref b] s) (F0 m 715 ls []) := by
  obtain ⟨hx, hb, hr, hml, hown0, hts, hX, hbl, hlocks, hgv⟩ := C0
  have hown : s.vm.findClass "PileLiftsLaw" = some m.cls := hown0
  have hbA : ¬ (fun q : Nat => s.heap.size ≤ q) b := Nat.not_le.mpr hbl
  obtain ⟨hi0, hi1, hi2, hi3⟩ := lw_in hx4 hk hL
  have hth : ∀ w ∈ wsH, w.before #[Value.ref b] s = true := fun w h => htt w (List.mem_append_left _ h)
  have htl : ∀ w ∈ wsL, w.before #[Value.ref b] s = true := fun w h => hth w (List.mem_append_left _ h)
  have htw : ∀ w ∈ wsC, w.before #[Value.ref b] s = true := fun w h => hth w (List.mem_append_right _ (List.mem_append_left _ h))
  have htm : ∀ w ∈ wsM, w.before #[Value.ref b] s = true := fun w h => htt w (List.mem_append_right _ h)
  obtain ⟨k, r, M', b2, N', hoc, hf2, hth0, hrb, hI⟩ := hop (xs (x4 + 1).toNatClampNeg) M N hI
  refine lv_aload_n hx hb d_L_law_715 rfl (lv_at hl 1 rfl) ?_
  refine lv_aload_n hx hb d_L_law_716 rfl (lv_at hl 0 rfl) ?_
  refine lv_iload hx hb d_L_law_717 (lv_at hl 4 rfl) ?_
  refine lv_iconst (v := 1) hx hb d_L_law_719 (by decide) ?_
  refine lv_iadd hx hb d_L_law_720 ?_
  refine va_sld hx hb hX hbl hbA hw.2.2.2.1 hi1 d_L_law_721 ?_
  refine lv_aload_n hx hb d_L_law_722 rfl (lv_at hl 3 rfl) ?_
  have key : ∀ (H : Heap) (locs : List Loc), lwK D o cO A G B E s (if k = 0 then vp_updL f 0 r.toInt64 else f) M' N H locs → W p l e room_1 s m #[Value.ref b] below meth c H locs (33 + k0) (747 + 6 * k0) (lw_Z below #[Value.ref b] s) (F0 m 726 ls (.int k :: [])) := by
    clear hw
    intro H locs hw
    refine lv_istore (lv' := [(5, .int k), (0, .ref b), (1, .ref (A 0)), (2, .ref (B 0)), (3, .ref o), (4, .int x4)]) hx hb d_L_law_726 hl (by decide) rfl (fun ls hl => ?_)
    refine lv_aload_n hx hb d_L_law_728 rfl (lv_at hl 3 rfl) ?_
    refine lv_aload_n hx hb d_L_law_729 rfl (lv_at hl 1 rfl) ?_
    refine lv_iload hx hb d_L_law_730 (lv_at hl 5 rfl) ?_
    refine lv_iconst (v := 1) hx hb d_L_law_732 (by decide) ?_
    refine lv_iadd hx hb d_L_law_733 ?_
    refine va_sld hx hb hX hbl hbA hw.2.2.2.1 hi1 d_L_law_734 ?_
    refine kb_calli (wc := wM B E N) (wr := wH o cO (if k = 0 then vp_updL f 0 r.toInt64 else f) A G M') (w1 := wM B E N') (ws' := wH o cO (if k = 0 then vp_updL f 0 r.toInt64 else f) A G M' ++ wM B E N') (va_runV (As := [.int (xs (x4 + 1).toNatClampNeg)]) (rest := []) ⟨hx, hb, hml, hown, htt⟩ (c_M_tidy l D B E (xs (x4 + 1).toNatClampNeg) N _ _ H.size hf2) ⟨callB_of 1 htt (wsLaw_M mM_139) rfl rfl rfl (htm _ mM_0) (htl _ mL_74) q_M_tidy ⟨by show 4 + 1 ≤ 2048; omega, by show 8 + (3 + 11) + 91 ≤ 84000; omega⟩, htm _ mM_137, htm _ mM_138⟩ (kb_preVh (fun _ _ _ _ h => h) hw [0, 1, 2, 3, 4, 5, 6, 7, 8, 9, 10, 11, 12, 13] [0, 1, 2, 3, 4, 5, 6, 7, 8, 9, 10, 11, 12] rfl rfl (by decide) rfl (fun _ _ _ => trivial) 0 (wM_0 B E _) rfl) rfl rfl hl.1 rfl (lv_room (Nat.le_of_ble_eq_true rfl)) d_L_law_735 ⟨by show _ + 0 ≤ 628987; omega, by show _ + 0 ≤ 7209143; omega⟩) hw [0, 1, 2, 3, 4, 5, 6, 7, 8, 9, 10, 11, 12, 13] [14, 15, 16, 17, 18, 19, 20, 21, 22, 23, 24, 25, 26, 27, 28, 29, 30, 31] rfl rfl (by decide) (by decide) rfl (fun H locs hw => ?_)
    refine W.cs (cells' := 33 + k0) (slots' := 747 + 6 * k0) rfl rfl ?_
    have hw := lwK_swap hw
    refine lv_istore (lv' := [(6, .int b2), (5, .int k), (0, .ref b), (1, .ref (A 0)), (2, .ref (B 0)), (3, .ref o), (4, .int x4)]) hx hb d_L_law_738 hl (by decide) rfl (fun ls hl => ?_)
    refine lv_aload_n hx hb d_L_law_740 rfl (lv_at hl 4 rfl) ?_
    refine kb_calli (wc := wM B E N') (wr := wH o cO (if k = 0 then vp_updL f 0 r.toInt64 else f) A G M') (w1 := wM B E N') (ws' := wH o cO (if k = 0 then vp_updL f 0 r.toInt64 else f) A G M' ++ wM B E N') (va_runV (As := []) (rest := []) ⟨hx, hb, hml, hown, htt⟩ (c_M_thrown l D B E N' _ _ H.size (show f_M_thrown N' = some (N' 0 0, N') from rfl)) ⟨callB_of 0 htt (wsLaw_M mM_51) rfl rfl rfl (htm _ mM_0) (htl _ mL_62) q_M_thrown ⟨by show 0 + 1 ≤ 2048; omega, by show 8 + (1 + 11) + 0 ≤ 84000; omega⟩, htm _ mM_49, htm _ mM_50⟩ (kb_preVh (fun _ _ _ _ h => h) hw [0, 1, 2, 3, 4, 5, 6, 7, 8, 9, 10, 11, 12, 13] [0, 1, 2, 3, 4, 5, 6, 7, 8, 9, 10, 11, 12] rfl rfl (by decide) rfl (fun _ _ _ => trivial) 0 (wM_0 B E _) rfl) rfl rfl hl.1 rfl (lv_room (Nat.le_of_ble_eq_true rfl)) d_L_law_741 ⟨by show _ + 0 ≤ 628987; omega, by show _ + 0 ≤ 7209143; omega⟩) hw [0, 1, 2, 3, 4, 5, 6, 7, 8, 9, 10, 11, 12, 13] [14, 15, 16, 17, 18, 19, 20, 21, 22, 23, 24, 25, 26, 27, 28, 29, 30, 31] rfl rfl (by decide) (by decide) rfl (fun H locs hw => ?_)
    refine W.cs (cells' := 33 + k0) (slots' := 747 + 6 * k0) rfl rfl ?_
    have hw := lwK_swap hw
    refine lv_iload hx hb d_L_law_744 (lv_at hl 1 rfl) ?_
    refine lv_icmp_eq (tgt := 751) hx hb d_L_law_746 (by decide) (fun cq => ?_) (fun cq => ?_)
    · refine lv_iload hx hb d_L_law_751 (lv_at hl 1 rfl) ?_
      refine lv_if_ne (tgt := 768) hx hb d_L_law_753 (by decide) (fun ck => ?_) (fun ck => ?_)
      · refine lv_goto (tgt := 883) hx hb d_L_law_768 (by decide) ?_
        exact next _ _ _ _ _ _ hI hw (lv_sub hl [2, 3, 4, 5, 6] rfl)
      · refine lv_aload_n hx hb d_L_law_756 rfl (lv_at hl 5 rfl) ?_
        refine lv_iconst (v := 0) hx hb d_L_law_757 (by decide) ?_
        refine va_lald hx hb hw.1 hw.2.1 14 13 rfl rfl (show ¬ ((0 : Int32) < 0 ∨ 1 ≤ (0 : Int32).toNatClampNeg) by decide) d_L_law_758 ?_
        refine lv_iload hx hb d_L_law_759 (lv_at hl 0 rfl) ?_
        refine lv_i2l (v := b2.toInt64) hx hb d_L_law_761 rfl ?_
        refine W.lcmp hx hb d_L_law_762 ?_
        refine lv_if_eq (tgt := 768) hx hb d_L_law_763 (by decide) (fun cq => ?_) (fun cq => ?_)
        · refine lv_goto (tgt := 883) hx hb d_L_law_768 (by decide) ?_
          exact next _ _ _ _ _ _ hI hw (lv_sub hl [2, 3, 4, 5, 6] rfl)
        · exact absurd (by rw [show (if k = 0 then vp_updL f 0 r.toInt64 else f) (Int32.toNatClampNeg 0) = r.toInt64 from by rw [if_pos ck]; rfl, hrb ck]; exact lg_cmp_self _) cq
    · exact absurd hth0 cq
  rcases hoc with ⟨h, hk0⟩ | ⟨j, x, hj, h, hk0⟩
  · subst hk0
    refine kb_calli (wc := wH o cO f A G M) (wr := wM B E N) (w1 := wH o cO (vp_updL f 0 r.toInt64) A G M') (ws' := wL o cO (vp_updL f 0 r.toInt64) A G M' B E N) (vx_runSW (As := [.ref (A 0), .int (xs (x4 + 1).toNatClampNeg), .ref o]) (rest := []) ⟨hx, hb, hml, hown, htt⟩ (n_L_tidy l D o cO f A G (xs (x4 + 1).toNatClampNeg) M r M' H.size h) (vx_cwSW 3 htt (wsLaw_S mL_48 mL_49 mL_0 mL_50) rfl rfl rfl q_L_tidy ⟨by show 6 + 1 ≤ 2048; omega, by show 8 + (4 + 11) + 136 ≤ 84000; omega⟩) (kb_preSh nnC_b hw [14, 15, 16, 17, 18, 19, 20, 21, 22, 23, 24, 25, 26, 27, 28, 29, 30, 31] [13, 14, 15, 16, 17, 18, 19, 20, 21, 22, 23, 24, 25, 26] rfl rfl (by decide) rfl (fun U hU hW => nnC_warm s U hW hE.1.1)) rfl rfl hl.1 rfl (lv_room (Nat.le_of_ble_eq_true rfl)) d_L_law_723 ⟨by show _ + 0 ≤ 628987; omega, by show _ + 0 ≤ 7209143; omega⟩) hw [14, 15, 16, 17, 18, 19, 20, 21, 22, 23, 24, 25, 26, 27, 28, 29, 30, 31] [0, 1, 2, 3, 4, 5, 6, 7, 8, 9, 10, 11, 12, 13] rfl rfl (by decide) (by decide) rfl (fun H locs hw => ?_)
    refine W.widen (k := 33 + k0) (n := 747 + 6 * k0) (by omega) (by omega) ?_
    exact key H locs hw
  · match j, hj with
    | 0, hj =>
      cases hj
      refine kb_calli (wc := wH o cO f A G M) (wr := wM B E N) (w1 := wH o cO f A G M') (ws' := wL o cO f A G M' B E N) (vx_runSW (As := [.ref (A 0), .int (xs (x4 + 1).toNatClampNeg), .ref o]) (rest := []) ⟨hx, hb, hml, hown, htt⟩ (t0_L_tidy l hlt D o cO f A G (xs (x4 + 1).toNatClampNeg) M M' H.size h) (vx_cwSW 3 htt (wsLaw_S mL_48 mL_49 mL_0 mL_50) rfl rfl rfl q_L_tidy ⟨by show 9 + 1 ≤ 2048; omega, by show 8 + (4 + 11) + 142 ≤ 84000; omega⟩) (kb_preSh (NN' := eH (va_A (wH o cO f A G M) H.size)) eH_b hw [14, 15, 16, 17, 18, 19, 20, 21, 22, 23, 24, 25, 26, 27, 28, 29, 30, 31] [13, 14, 15, 16, 17, 18, 19, 20, 21, 22, 23, 24, 25, 26] rfl rfl (by decide) rfl (fun U hU hW => ⟨eeC_call hE.1 hW hU hw.2.2.2.1 (va_free hw.2.2.1 hw.2.2.2.1 hw.2.2.2.2 [14, 15, 16, 17, 18, 19, 20, 21, 22, 23, 24, 25, 26, 27, 28, 29, 30, 31] rfl), ncX_al hW.alike hE.2⟩)) rfl rfl hl.1 rfl (lv_room (Nat.le_of_ble_eq_true rfl)) d_L_law_723 ⟨by show _ + 1 ≤ 628987; omega, by show _ + 6 ≤ 7209143; omega⟩) hw [14, 15, 16, 17, 18, 19, 20, 21, 22, 23, 24, 25, 26, 27, 28, 29, 30, 31] [0, 1, 2, 3, 4, 5, 6, 7, 8, 9, 10, 11, 12, 13] rfl rfl (by decide) (by decide) rfl (fun H locs hw => ?_)
      refine W.widen (k := 33 + k0) (n := 747 + 6 * k0) (by omega) (by omega) ?_
      subst hk0
      exact key H locs hw
    | j + 1, hj => simp at hj
def op_wagon (Inv : (Nat → Nat → Int32) → (Nat → Nat → Int32) → Prop) : Prop := ∀ (x1 : Int32) (M N : (Nat → Nat → Int32)), Inv M N → ∃ (k r : Int32) (M' : (Nat → Nat → Int32)) (b : Int32) (N' : (Nat → Nat → Int32)), kb_oc (f_P_wagon x1 M) (x_P_wagon x1 M) [3, 4] k r M' ∧ f_M_wagon x1 N = some (b, N') ∧ N' 0 0 = k ∧ (k = 0 → r = b) ∧ Inv M' N'
set_option maxHeartbeats 4000000 in
set_option maxRecDepth 100000 in
theorem lc_wagon {p : Program} {l : Launch} {e : Env} {s : State} {m : MethodId} {below : List Frame} {meth : Method} {c : Code} {D : va_G} {o : Nat} {cO : ClassId} {A : Nat → Nat} {G : Nat → ClassId} {B : Nat → Nat} {E : Nat → ClassId} {b L : Nat} {xs : Nat → Int32} {k0 : Nat} {x4 : Int32} (hL : L ≤ 2048) (hlt : l.stackTraces = false) (C0 : lw_At p s m meth c b L xs) (htt : ∀ w ∈ wsLaw, w.before #[Value.ref b] s = true) (hE : eH (fun q => s.heap.size ≤ q) s) {Inv : (Nat → Nat → Int32) → (Nat → Nat → Int32) → Prop} (hop : op_wagon Inv) (hk : k0 + 4 ≤ L) (hx4 : x4 = nI k0)
    {f : Nat → Int64} {M N : (Nat → Nat → Int32)} {H : Heap} {locs : List Loc} {ls : Array Slot} (hI : Inv M N) (hw : lwK D o cO A G B E s f M N H locs) (hl : lv_has ls 7 [(0, .ref b), (1, .ref (A 0)), (2, .ref (B 0)), (3, .ref o), (4, .int x4)])
    (next : ∀ (f : Nat → Int64) (M N : (Nat → Nat → Int32)) (H : Heap) (locs : List Loc) (ls : Array Slot), Inv M N → lwK D o cO A G B E s f M N H locs → lv_has ls 7 [(0, .ref b), (1, .ref (A 0)), (2, .ref (B 0)), (3, .ref o), (4, .int x4)] → W p l e room_1 s m #[Value.ref b] below meth c H locs (33 + k0) (747 + 6 * k0) (lw_Z below #[Value.ref b] s) (F0 m 883 ls [])) : W p l e room_1 s m #[Value.ref b] below meth c H locs (32 + k0) (741 + 6 * k0) (lw_Z below #[Value.ref b] s) (F0 m 771 ls []) := by
  obtain ⟨hx, hb, hr, hml, hown0, hts, hX, hbl, hlocks, hgv⟩ := C0
  have hown : s.vm.findClass "PileLiftsLaw" = some m.cls := hown0
  have hbA : ¬ (fun q : Nat => s.heap.size ≤ q) b := Nat.not_le.mpr hbl
  obtain ⟨hi0, hi1, hi2, hi3⟩ := lw_in hx4 hk hL
  have hth : ∀ w ∈ wsH, w.before #[Value.ref b] s = true := fun w h => htt w (List.mem_append_left _ h)
  have htl : ∀ w ∈ wsL, w.before #[Value.ref b] s = true := fun w h => hth w (List.mem_append_left _ h)
  have htw : ∀ w ∈ wsC, w.before #[Value.ref b] s = true := fun w h => hth w (List.mem_append_right _ (List.mem_append_left _ h))
  have htm : ∀ w ∈ wsM, w.before #[Value.ref b] s = true := fun w h => htt w (List.mem_append_right _ h)
  obtain ⟨k, r, M', b2, N', hoc, hf2, hth0, hrb, hI⟩ := hop (xs (x4 + 1).toNatClampNeg) M N hI
  refine lv_aload_n hx hb d_L_law_771 rfl (lv_at hl 1 rfl) ?_
  refine lv_aload_n hx hb d_L_law_772 rfl (lv_at hl 0 rfl) ?_
  refine lv_iload hx hb d_L_law_773 (lv_at hl 4 rfl) ?_
  refine lv_iconst (v := 1) hx hb d_L_law_775 (by decide) ?_
  refine lv_iadd hx hb d_L_law_776 ?_
  refine va_sld hx hb hX hbl hbA hw.2.2.2.1 hi1 d_L_law_777 ?_
  refine lv_aload_n hx hb d_L_law_778 rfl (lv_at hl 3 rfl) ?_
  have key : ∀ (H : Heap) (locs : List Loc), lwK D o cO A G B E s (if k = 0 then vp_updL f 0 r.toInt64 else f) M' N H locs → W p l e room_1 s m #[Value.ref b] below meth c H locs (33 + k0) (747 + 6 * k0) (lw_Z below #[Value.ref b] s) (F0 m 782 ls (.int k :: [])) := by
    clear hw
    intro H locs hw
    refine lv_istore (lv' := [(5, .int k), (0, .ref b), (1, .ref (A 0)), (2, .ref (B 0)), (3, .ref o), (4, .int x4)]) hx hb d_L_law_782 hl (by decide) rfl (fun ls hl => ?_)
    refine lv_aload_n hx hb d_L_law_784 rfl (lv_at hl 3 rfl) ?_
    refine lv_aload_n hx hb d_L_law_785 rfl (lv_at hl 1 rfl) ?_
    refine lv_iload hx hb d_L_law_786 (lv_at hl 5 rfl) ?_
    refine lv_iconst (v := 1) hx hb d_L_law_788 (by decide) ?_
    refine lv_iadd hx hb d_L_law_789 ?_
    refine va_sld hx hb hX hbl hbA hw.2.2.2.1 hi1 d_L_law_790 ?_
    refine kb_calli (wc := wM B E N) (wr := wH o cO (if k = 0 then vp_updL f 0 r.toInt64 else f) A G M') (w1 := wM B E N') (ws' := wH o cO (if k = 0 then vp_updL f 0 r.toInt64 else f) A G M' ++ wM B E N') (va_runV (As := [.int (xs (x4 + 1).toNatClampNeg)]) (rest := []) ⟨hx, hb, hml, hown, htt⟩ (c_M_wagon l D B E (xs (x4 + 1).toNatClampNeg) N _ _ H.size hf2) ⟨callB_of 1 htt (wsLaw_M mM_145) rfl rfl rfl (htm _ mM_0) (htl _ mL_75) q_M_wagon ⟨by show 1 + 1 ≤ 2048; omega, by show 8 + (2 + 11) + 23 ≤ 84000; omega⟩, htm _ mM_143, htm _ mM_144⟩ (kb_preVh (fun _ _ _ _ h => h) hw [0, 1, 2, 3, 4, 5, 6, 7, 8, 9, 10, 11, 12, 13] [0, 1, 2, 3, 4, 5, 6, 7, 8, 9, 10, 11, 12] rfl rfl (by decide) rfl (fun _ _ _ => trivial) 0 (wM_0 B E _) rfl) rfl rfl hl.1 rfl (lv_room (Nat.le_of_ble_eq_true rfl)) d_L_law_791 ⟨by show _ + 0 ≤ 628987; omega, by show _ + 0 ≤ 7209143; omega⟩) hw [0, 1, 2, 3, 4, 5, 6, 7, 8, 9, 10, 11, 12, 13] [14, 15, 16, 17, 18, 19, 20, 21, 22, 23, 24, 25, 26, 27, 28, 29, 30, 31] rfl rfl (by decide) (by decide) rfl (fun H locs hw => ?_)
    refine W.cs (cells' := 33 + k0) (slots' := 747 + 6 * k0) rfl rfl ?_
    have hw := lwK_swap hw
    refine lv_istore (lv' := [(6, .int b2), (5, .int k), (0, .ref b), (1, .ref (A 0)), (2, .ref (B 0)), (3, .ref o), (4, .int x4)]) hx hb d_L_law_794 hl (by decide) rfl (fun ls hl => ?_)
    refine lv_aload_n hx hb d_L_law_796 rfl (lv_at hl 4 rfl) ?_
    refine kb_calli (wc := wM B E N') (wr := wH o cO (if k = 0 then vp_updL f 0 r.toInt64 else f) A G M') (w1 := wM B E N') (ws' := wH o cO (if k = 0 then vp_updL f 0 r.toInt64 else f) A G M' ++ wM B E N') (va_runV (As := []) (rest := []) ⟨hx, hb, hml, hown, htt⟩ (c_M_thrown l D B E N' _ _ H.size (show f_M_thrown N' = some (N' 0 0, N') from rfl)) ⟨callB_of 0 htt (wsLaw_M mM_51) rfl rfl rfl (htm _ mM_0) (htl _ mL_62) q_M_thrown ⟨by show 0 + 1 ≤ 2048; omega, by show 8 + (1 + 11) + 0 ≤ 84000; omega⟩, htm _ mM_49, htm _ mM_50⟩ (kb_preVh (fun _ _ _ _ h => h) hw [0, 1, 2, 3, 4, 5, 6, 7, 8, 9, 10, 11, 12, 13] [0, 1, 2, 3, 4, 5, 6, 7, 8, 9, 10, 11, 12] rfl rfl (by decide) rfl (fun _ _ _ => trivial) 0 (wM_0 B E _) rfl) rfl rfl hl.1 rfl (lv_room (Nat.le_of_ble_eq_true rfl)) d_L_law_797 ⟨by show _ + 0 ≤ 628987; omega, by show _ + 0 ≤ 7209143; omega⟩) hw [0, 1, 2, 3, 4, 5, 6, 7, 8, 9, 10, 11, 12, 13] [14, 15, 16, 17, 18, 19, 20, 21, 22, 23, 24, 25, 26, 27, 28, 29, 30, 31] rfl rfl (by decide) (by decide) rfl (fun H locs hw => ?_)
    refine W.cs (cells' := 33 + k0) (slots' := 747 + 6 * k0) rfl rfl ?_
    have hw := lwK_swap hw
    refine lv_iload hx hb d_L_law_800 (lv_at hl 1 rfl) ?_
    refine lv_icmp_eq (tgt := 807) hx hb d_L_law_802 (by decide) (fun cq => ?_) (fun cq => ?_)
    · refine lv_iload hx hb d_L_law_807 (lv_at hl 1 rfl) ?_
      refine lv_if_ne (tgt := 824) hx hb d_L_law_809 (by decide) (fun ck => ?_) (fun ck => ?_)
      · refine lv_goto (tgt := 883) hx hb d_L_law_824 (by decide) ?_
        exact next _ _ _ _ _ _ hI hw (lv_sub hl [2, 3, 4, 5, 6] rfl)
      · refine lv_aload_n hx hb d_L_law_812 rfl (lv_at hl 5 rfl) ?_
        refine lv_iconst (v := 0) hx hb d_L_law_813 (by decide) ?_
        refine va_lald hx hb hw.1 hw.2.1 14 13 rfl rfl (show ¬ ((0 : Int32) < 0 ∨ 1 ≤ (0 : Int32).toNatClampNeg) by decide) d_L_law_814 ?_
        refine lv_iload hx hb d_L_law_815 (lv_at hl 0 rfl) ?_
        refine lv_i2l (v := b2.toInt64) hx hb d_L_law_817 rfl ?_
        refine W.lcmp hx hb d_L_law_818 ?_
        refine lv_if_eq (tgt := 824) hx hb d_L_law_819 (by decide) (fun cq => ?_) (fun cq => ?_)
        · refine lv_goto (tgt := 883) hx hb d_L_law_824 (by decide) ?_
          exact next _ _ _ _ _ _ hI hw (lv_sub hl [2, 3, 4, 5, 6] rfl)
        · exact absurd (by rw [show (if k = 0 then vp_updL f 0 r.toInt64 else f) (Int32.toNatClampNeg 0) = r.toInt64 from by rw [if_pos ck]; rfl, hrb ck]; exact lg_cmp_self _) cq
    · exact absurd hth0 cq
  rcases hoc with ⟨h, hk0⟩ | ⟨j, x, hj, h, hk0⟩
  · subst hk0
    refine kb_calli (wc := wH o cO f A G M) (wr := wM B E N) (w1 := wH o cO (vp_updL f 0 r.toInt64) A G M') (ws' := wL o cO (vp_updL f 0 r.toInt64) A G M' B E N) (vx_runSW (As := [.ref (A 0), .int (xs (x4 + 1).toNatClampNeg), .ref o]) (rest := []) ⟨hx, hb, hml, hown, htt⟩ (n_L_wagon l D o cO f A G (xs (x4 + 1).toNatClampNeg) M r M' H.size h) (vx_cwSW 3 htt (wsLaw_S mL_52 mL_53 mL_0 mL_54) rfl rfl rfl q_L_wagon ⟨by show 2 + 1 ≤ 2048; omega, by show 8 + (4 + 11) + 43 ≤ 84000; omega⟩) (kb_preSh nnC_b hw [14, 15, 16, 17, 18, 19, 20, 21, 22, 23, 24, 25, 26, 27, 28, 29, 30, 31] [13, 14, 15, 16, 17, 18, 19, 20, 21, 22, 23, 24, 25, 26] rfl rfl (by decide) rfl (fun U hU hW => nnC_warm s U hW hE.1.1)) rfl rfl hl.1 rfl (lv_room (Nat.le_of_ble_eq_true rfl)) d_L_law_779 ⟨by show _ + 0 ≤ 628987; omega, by show _ + 0 ≤ 7209143; omega⟩) hw [14, 15, 16, 17, 18, 19, 20, 21, 22, 23, 24, 25, 26, 27, 28, 29, 30, 31] [0, 1, 2, 3, 4, 5, 6, 7, 8, 9, 10, 11, 12, 13] rfl rfl (by decide) (by decide) rfl (fun H locs hw => ?_)
    refine W.widen (k := 33 + k0) (n := 747 + 6 * k0) (by omega) (by omega) ?_
    exact key H locs hw
  · match j, hj with
    | 0, hj =>
      cases hj
      refine kb_calli (wc := wH o cO f A G M) (wr := wM B E N) (w1 := wH o cO f A G M') (ws' := wL o cO f A G M' B E N) (vx_runSW (As := [.ref (A 0), .int (xs (x4 + 1).toNatClampNeg), .ref o]) (rest := []) ⟨hx, hb, hml, hown, htt⟩ (t0_L_wagon l hlt D o cO f A G (xs (x4 + 1).toNatClampNeg) M M' H.size h) (vx_cwSW 3 htt (wsLaw_S mL_52 mL_53 mL_0 mL_54) rfl rfl rfl q_L_wagon ⟨by show 9 + 1 ≤ 2048; omega, by show 8 + (4 + 11) + 141 ≤ 84000; omega⟩) (kb_preSh (NN' := eH (va_A (wH o cO f A G M) H.size)) eH_b hw [14, 15, 16, 17, 18, 19, 20, 21, 22, 23, 24, 25, 26, 27, 28, 29, 30, 31] [13, 14, 15, 16, 17, 18, 19, 20, 21, 22, 23, 24, 25, 26] rfl rfl (by decide) rfl (fun U hU hW => ⟨eeC_call hE.1 hW hU hw.2.2.2.1 (va_free hw.2.2.1 hw.2.2.2.1 hw.2.2.2.2 [14, 15, 16, 17, 18, 19, 20, 21, 22, 23, 24, 25, 26, 27, 28, 29, 30, 31] rfl), ncX_al hW.alike hE.2⟩)) rfl rfl hl.1 rfl (lv_room (Nat.le_of_ble_eq_true rfl)) d_L_law_779 ⟨by show _ + 1 ≤ 628987; omega, by show _ + 6 ≤ 7209143; omega⟩) hw [14, 15, 16, 17, 18, 19, 20, 21, 22, 23, 24, 25, 26, 27, 28, 29, 30, 31] [0, 1, 2, 3, 4, 5, 6, 7, 8, 9, 10, 11, 12, 13] rfl rfl (by decide) (by decide) rfl (fun H locs hw => ?_)
      refine W.widen (k := 33 + k0) (n := 747 + 6 * k0) (by omega) (by omega) ?_
      subst hk0
      exact key H locs hw
    | 1, hj =>
      cases hj
      refine kb_calli (wc := wH o cO f A G M) (wr := wM B E N) (w1 := wH o cO f A G M') (ws' := wL o cO f A G M' B E N) (vx_runSW (As := [.ref (A 0), .int (xs (x4 + 1).toNatClampNeg), .ref o]) (rest := []) ⟨hx, hb, hml, hown, htt⟩ (t1_L_wagon l hlt D o cO f A G (xs (x4 + 1).toNatClampNeg) M M' H.size h) (vx_cwSW 3 htt (wsLaw_S mL_52 mL_53 mL_0 mL_54) rfl rfl rfl q_L_wagon ⟨by show 9 + 1 ≤ 2048; omega, by show 8 + (4 + 11) + 141 ≤ 84000; omega⟩) (kb_preSh (NN' := eH (va_A (wH o cO f A G M) H.size)) eH_b hw [14, 15, 16, 17, 18, 19, 20, 21, 22, 23, 24, 25, 26, 27, 28, 29, 30, 31] [13, 14, 15, 16, 17, 18, 19, 20, 21, 22, 23, 24, 25, 26] rfl rfl (by decide) rfl (fun U hU hW => ⟨eeC_call hE.1 hW hU hw.2.2.2.1 (va_free hw.2.2.1 hw.2.2.2.1 hw.2.2.2.2 [14, 15, 16, 17, 18, 19, 20, 21, 22, 23, 24, 25, 26, 27, 28, 29, 30, 31] rfl), ncX_al hW.alike hE.2⟩)) rfl rfl hl.1 rfl (lv_room (Nat.le_of_ble_eq_true rfl)) d_L_law_779 ⟨by show _ + 1 ≤ 628987; omega, by show _ + 6 ≤ 7209143; omega⟩) hw [14, 15, 16, 17, 18, 19, 20, 21, 22, 23, 24, 25, 26, 27, 28, 29, 30, 31] [0, 1, 2, 3, 4, 5, 6, 7, 8, 9, 10, 11, 12, 13] rfl rfl (by decide) (by decide) rfl (fun H locs hw => ?_)
      refine W.widen (k := 33 + k0) (n := 747 + 6 * k0) (by omega) (by omega) ?_
      subst hk0
      exact key H locs hw
    | j + 2, hj => simp at hj
def op_load (Inv : (Nat → Nat → Int32) → (Nat → Nat → Int32) → Prop) : Prop := ∀ (x1 : Int32) (M N : (Nat → Nat → Int32)), Inv M N → ∃ (k r : Int32) (M' : (Nat → Nat → Int32)) (b : Int32) (N' : (Nat → Nat → Int32)), kb_oc (f_P_load x1 M) (x_P_load x1 M) [1, 2, 4] k r M' ∧ f_M_load x1 N = some (b, N') ∧ N' 0 0 = k ∧ (k = 0 → r = b) ∧ Inv M' N'
set_option maxHeartbeats 4000000 in
set_option maxRecDepth 100000 in
theorem lc_load {p : Program} {l : Launch} {e : Env} {s : State} {m : MethodId} {below : List Frame} {meth : Method} {c : Code} {D : va_G} {o : Nat} {cO : ClassId} {A : Nat → Nat} {G : Nat → ClassId} {B : Nat → Nat} {E : Nat → ClassId} {b L : Nat} {xs : Nat → Int32} {k0 : Nat} {x4 : Int32} (hL : L ≤ 2048) (hlt : l.stackTraces = false) (C0 : lw_At p s m meth c b L xs) (htt : ∀ w ∈ wsLaw, w.before #[Value.ref b] s = true) (hE : eH (fun q => s.heap.size ≤ q) s) {Inv : (Nat → Nat → Int32) → (Nat → Nat → Int32) → Prop} (hop : op_load Inv) (hk : k0 + 4 ≤ L) (hx4 : x4 = nI k0)
    {f : Nat → Int64} {M N : (Nat → Nat → Int32)} {H : Heap} {locs : List Loc} {ls : Array Slot} (hI : Inv M N) (hw : lwK D o cO A G B E s f M N H locs) (hl : lv_has ls 7 [(0, .ref b), (1, .ref (A 0)), (2, .ref (B 0)), (3, .ref o), (4, .int x4)])
    (next : ∀ (f : Nat → Int64) (M N : (Nat → Nat → Int32)) (H : Heap) (locs : List Loc) (ls : Array Slot), Inv M N → lwK D o cO A G B E s f M N H locs → lv_has ls 7 [(0, .ref b), (1, .ref (A 0)), (2, .ref (B 0)), (3, .ref o), (4, .int x4)] → W p l e room_1 s m #[Value.ref b] below meth c H locs (33 + k0) (747 + 6 * k0) (lw_Z below #[Value.ref b] s) (F0 m 883 ls [])) : W p l e room_1 s m #[Value.ref b] below meth c H locs (32 + k0) (741 + 6 * k0) (lw_Z below #[Value.ref b] s) (F0 m 827 ls []) := by
  obtain ⟨hx, hb, hr, hml, hown0, hts, hX, hbl, hlocks, hgv⟩ := C0
  have hown : s.vm.findClass "PileLiftsLaw" = some m.cls := hown0
  have hbA : ¬ (fun q : Nat => s.heap.size ≤ q) b := Nat.not_le.mpr hbl
  obtain ⟨hi0, hi1, hi2, hi3⟩ := lw_in hx4 hk hL
  have hth : ∀ w ∈ wsH, w.before #[Value.ref b] s = true := fun w h => htt w (List.mem_append_left _ h)
  have htl : ∀ w ∈ wsL, w.before #[Value.ref b] s = true := fun w h => hth w (List.mem_append_left _ h)
  have htw : ∀ w ∈ wsC, w.before #[Value.ref b] s = true := fun w h => hth w (List.mem_append_right _ (List.mem_append_left _ h))
  have htm : ∀ w ∈ wsM, w.before #[Value.ref b] s = true := fun w h => htt w (List.mem_append_right _ h)
  obtain ⟨k, r, M', b2, N', hoc, hf2, hth0, hrb, hI⟩ := hop (xs (x4 + 1).toNatClampNeg) M N hI
  refine lv_aload_n hx hb d_L_law_827 rfl (lv_at hl 1 rfl) ?_
  refine lv_aload_n hx hb d_L_law_828 rfl (lv_at hl 0 rfl) ?_
  refine lv_iload hx hb d_L_law_829 (lv_at hl 4 rfl) ?_
  refine lv_iconst (v := 1) hx hb d_L_law_831 (by decide) ?_
  refine lv_iadd hx hb d_L_law_832 ?_
  refine va_sld hx hb hX hbl hbA hw.2.2.2.1 hi1 d_L_law_833 ?_
  refine lv_aload_n hx hb d_L_law_834 rfl (lv_at hl 3 rfl) ?_
  have key : ∀ (H : Heap) (locs : List Loc), lwK D o cO A G B E s (if k = 0 then vp_updL f 0 r.toInt64 else f) M' N H locs → W p l e room_1 s m #[Value.ref b] below meth c H locs (33 + k0) (747 + 6 * k0) (lw_Z below #[Value.ref b] s) (F0 m 838 ls (.int k :: [])) := by
    clear hw
    intro H locs hw
    refine lv_istore (lv' := [(5, .int k), (0, .ref b), (1, .ref (A 0)), (2, .ref (B 0)), (3, .ref o), (4, .int x4)]) hx hb d_L_law_838 hl (by decide) rfl (fun ls hl => ?_)
    refine lv_aload_n hx hb d_L_law_840 rfl (lv_at hl 3 rfl) ?_
    refine lv_aload_n hx hb d_L_law_841 rfl (lv_at hl 1 rfl) ?_
    refine lv_iload hx hb d_L_law_842 (lv_at hl 5 rfl) ?_
    refine lv_iconst (v := 1) hx hb d_L_law_844 (by decide) ?_
    refine lv_iadd hx hb d_L_law_845 ?_
    refine va_sld hx hb hX hbl hbA hw.2.2.2.1 hi1 d_L_law_846 ?_
    refine kb_calli (wc := wM B E N) (wr := wH o cO (if k = 0 then vp_updL f 0 r.toInt64 else f) A G M') (w1 := wM B E N') (ws' := wH o cO (if k = 0 then vp_updL f 0 r.toInt64 else f) A G M' ++ wM B E N') (va_runV (As := [.int (xs (x4 + 1).toNatClampNeg)]) (rest := []) ⟨hx, hb, hml, hown, htt⟩ (c_M_load l D B E (xs (x4 + 1).toNatClampNeg) N _ _ H.size hf2) ⟨callB_of 1 htt (wsLaw_M mM_148) rfl rfl rfl (htm _ mM_0) (htl _ mL_76) q_M_load ⟨by show 2 + 1 ≤ 2048; omega, by show 8 + (4 + 11) + 43 ≤ 84000; omega⟩, htm _ mM_146, htm _ mM_147⟩ (kb_preVh (fun _ _ _ _ h => h) hw [0, 1, 2, 3, 4, 5, 6, 7, 8, 9, 10, 11, 12, 13] [0, 1, 2, 3, 4, 5, 6, 7, 8, 9, 10, 11, 12] rfl rfl (by decide) rfl (fun _ _ _ => trivial) 0 (wM_0 B E _) rfl) rfl rfl hl.1 rfl (lv_room (Nat.le_of_ble_eq_true rfl)) d_L_law_847 ⟨by show _ + 0 ≤ 628987; omega, by show _ + 0 ≤ 7209143; omega⟩) hw [0, 1, 2, 3, 4, 5, 6, 7, 8, 9, 10, 11, 12, 13] [14, 15, 16, 17, 18, 19, 20, 21, 22, 23, 24, 25, 26, 27, 28, 29, 30, 31] rfl rfl (by decide) (by decide) rfl (fun H locs hw => ?_)
    refine W.cs (cells' := 33 + k0) (slots' := 747 + 6 * k0) rfl rfl ?_
    have hw := lwK_swap hw
    refine lv_istore (lv' := [(6, .int b2), (5, .int k), (0, .ref b), (1, .ref (A 0)), (2, .ref (B 0)), (3, .ref o), (4, .int x4)]) hx hb d_L_law_850 hl (by decide) rfl (fun ls hl => ?_)
    refine lv_aload_n hx hb d_L_law_852 rfl (lv_at hl 4 rfl) ?_
    refine kb_calli (wc := wM B E N') (wr := wH o cO (if k = 0 then vp_updL f 0 r.toInt64 else f) A G M') (w1 := wM B E N') (ws' := wH o cO (if k = 0 then vp_updL f 0 r.toInt64 else f) A G M' ++ wM B E N') (va_runV (As := []) (rest := []) ⟨hx, hb, hml, hown, htt⟩ (c_M_thrown l D B E N' _ _ H.size (show f_M_thrown N' = some (N' 0 0, N') from rfl)) ⟨callB_of 0 htt (wsLaw_M mM_51) rfl rfl rfl (htm _ mM_0) (htl _ mL_62) q_M_thrown ⟨by show 0 + 1 ≤ 2048; omega, by show 8 + (1 + 11) + 0 ≤ 84000; omega⟩, htm _ mM_49, htm _ mM_50⟩ (kb_preVh (fun _ _ _ _ h => h) hw [0, 1, 2, 3, 4, 5, 6, 7, 8, 9, 10, 11, 12, 13] [0, 1, 2, 3, 4, 5, 6, 7, 8, 9, 10, 11, 12] rfl rfl (by decide) rfl (fun _ _ _ => trivial) 0 (wM_0 B E _) rfl) rfl rfl hl.1 rfl (lv_room (Nat.le_of_ble_eq_true rfl)) d_L_law_853 ⟨by show _ + 0 ≤ 628987; omega, by show _ + 0 ≤ 7209143; omega⟩) hw [0, 1, 2, 3, 4, 5, 6, 7, 8, 9, 10, 11, 12, 13] [14, 15, 16, 17, 18, 19, 20, 21, 22, 23, 24, 25, 26, 27, 28, 29, 30, 31] rfl rfl (by decide) (by decide) rfl (fun H locs hw => ?_)
    refine W.cs (cells' := 33 + k0) (slots' := 747 + 6 * k0) rfl rfl ?_
    have hw := lwK_swap hw
    refine lv_iload hx hb d_L_law_856 (lv_at hl 1 rfl) ?_
    refine lv_icmp_eq (tgt := 863) hx hb d_L_law_858 (by decide) (fun cq => ?_) (fun cq => ?_)
    · refine lv_iload hx hb d_L_law_863 (lv_at hl 1 rfl) ?_
      refine lv_if_ne (tgt := 880) hx hb d_L_law_865 (by decide) (fun ck => ?_) (fun ck => ?_)
      · refine lv_goto (tgt := 883) hx hb d_L_law_880 (by decide) ?_
        exact next _ _ _ _ _ _ hI hw (lv_sub hl [2, 3, 4, 5, 6] rfl)
      · refine lv_aload_n hx hb d_L_law_868 rfl (lv_at hl 5 rfl) ?_
        refine lv_iconst (v := 0) hx hb d_L_law_869 (by decide) ?_
        refine va_lald hx hb hw.1 hw.2.1 14 13 rfl rfl (show ¬ ((0 : Int32) < 0 ∨ 1 ≤ (0 : Int32).toNatClampNeg) by decide) d_L_law_870 ?_
        refine lv_iload hx hb d_L_law_871 (lv_at hl 0 rfl) ?_
        refine lv_i2l (v := b2.toInt64) hx hb d_L_law_873 rfl ?_
        refine W.lcmp hx hb d_L_law_874 ?_
        refine lv_if_eq (tgt := 880) hx hb d_L_law_875 (by decide) (fun cq => ?_) (fun cq => ?_)
        · refine lv_goto (tgt := 883) hx hb d_L_law_880 (by decide) ?_
          exact next _ _ _ _ _ _ hI hw (lv_sub hl [2, 3, 4, 5, 6] rfl)
        · exact absurd (by rw [show (if k = 0 then vp_updL f 0 r.toInt64 else f) (Int32.toNatClampNeg 0) = r.toInt64 from by rw [if_pos ck]; rfl, hrb ck]; exact lg_cmp_self _) cq
    · exact absurd hth0 cq
  rcases hoc with ⟨h, hk0⟩ | ⟨j, x, hj, h, hk0⟩
  · subst hk0
    refine kb_calli (wc := wH o cO f A G M) (wr := wM B E N) (w1 := wH o cO (vp_updL f 0 r.toInt64) A G M') (ws' := wL o cO (vp_updL f 0 r.toInt64) A G M' B E N) (vx_runSW (As := [.ref (A 0), .int (xs (x4 + 1).toNatClampNeg), .ref o]) (rest := []) ⟨hx, hb, hml, hown, htt⟩ (n_L_load l D o cO f A G (xs (x4 + 1).toNatClampNeg) M r M' H.size h) (vx_cwSW 3 htt (wsLaw_S mL_56 mL_57 mL_0 mL_58) rfl rfl rfl q_L_load ⟨by show 4 + 1 ≤ 2048; omega, by show 8 + (4 + 11) + 86 ≤ 84000; omega⟩) (kb_preSh nnC_b hw [14, 15, 16, 17, 18, 19, 20, 21, 22, 23, 24, 25, 26, 27, 28, 29, 30, 31] [13, 14, 15, 16, 17, 18, 19, 20, 21, 22, 23, 24, 25, 26] rfl rfl (by decide) rfl (fun U hU hW => nnC_warm s U hW hE.1.1)) rfl rfl hl.1 rfl (lv_room (Nat.le_of_ble_eq_true rfl)) d_L_law_835 ⟨by show _ + 0 ≤ 628987; omega, by show _ + 0 ≤ 7209143; omega⟩) hw [14, 15, 16, 17, 18, 19, 20, 21, 22, 23, 24, 25, 26, 27, 28, 29, 30, 31] [0, 1, 2, 3, 4, 5, 6, 7, 8, 9, 10, 11, 12, 13] rfl rfl (by decide) (by decide) rfl (fun H locs hw => ?_)
    refine W.widen (k := 33 + k0) (n := 747 + 6 * k0) (by omega) (by omega) ?_
    exact key H locs hw
  · match j, hj with
    | 0, hj =>
      cases hj
      refine kb_calli (wc := wH o cO f A G M) (wr := wM B E N) (w1 := wH o cO f A G M') (ws' := wL o cO f A G M' B E N) (vx_runSW (As := [.ref (A 0), .int (xs (x4 + 1).toNatClampNeg), .ref o]) (rest := []) ⟨hx, hb, hml, hown, htt⟩ (t0_L_load l hlt D o cO f A G (xs (x4 + 1).toNatClampNeg) M M' H.size h) (vx_cwSW 3 htt (wsLaw_S mL_56 mL_57 mL_0 mL_58) rfl rfl rfl q_L_load ⟨by show 10 + 1 ≤ 2048; omega, by show 8 + (4 + 11) + 163 ≤ 84000; omega⟩) (kb_preSh (NN' := eH (va_A (wH o cO f A G M) H.size)) eH_b hw [14, 15, 16, 17, 18, 19, 20, 21, 22, 23, 24, 25, 26, 27, 28, 29, 30, 31] [13, 14, 15, 16, 17, 18, 19, 20, 21, 22, 23, 24, 25, 26] rfl rfl (by decide) rfl (fun U hU hW => ⟨eeC_call hE.1 hW hU hw.2.2.2.1 (va_free hw.2.2.1 hw.2.2.2.1 hw.2.2.2.2 [14, 15, 16, 17, 18, 19, 20, 21, 22, 23, 24, 25, 26, 27, 28, 29, 30, 31] rfl), ncX_al hW.alike hE.2⟩)) rfl rfl hl.1 rfl (lv_room (Nat.le_of_ble_eq_true rfl)) d_L_law_835 ⟨by show _ + 1 ≤ 628987; omega, by show _ + 6 ≤ 7209143; omega⟩) hw [14, 15, 16, 17, 18, 19, 20, 21, 22, 23, 24, 25, 26, 27, 28, 29, 30, 31] [0, 1, 2, 3, 4, 5, 6, 7, 8, 9, 10, 11, 12, 13] rfl rfl (by decide) (by decide) rfl (fun H locs hw => ?_)
      refine W.widen (k := 33 + k0) (n := 747 + 6 * k0) (by omega) (by omega) ?_
      subst hk0
      exact key H locs hw
    | 1, hj =>
      cases hj
      refine kb_calli (wc := wH o cO f A G M) (wr := wM B E N) (w1 := wH o cO f A G M') (ws' := wL o cO f A G M' B E N) (vx_runSW (As := [.ref (A 0), .int (xs (x4 + 1).toNatClampNeg), .ref o]) (rest := []) ⟨hx, hb, hml, hown, htt⟩ (t1_L_load l hlt D o cO f A G (xs (x4 + 1).toNatClampNeg) M M' H.size h) (vx_cwSW 3 htt (wsLaw_S mL_56 mL_57 mL_0 mL_58) rfl rfl rfl q_L_load ⟨by show 10 + 1 ≤ 2048; omega, by show 8 + (4 + 11) + 163 ≤ 84000; omega⟩) (kb_preSh (NN' := eH (va_A (wH o cO f A G M) H.size)) eH_b hw [14, 15, 16, 17, 18, 19, 20, 21, 22, 23, 24, 25, 26, 27, 28, 29, 30, 31] [13, 14, 15, 16, 17, 18, 19, 20, 21, 22, 23, 24, 25, 26] rfl rfl (by decide) rfl (fun U hU hW => ⟨eeC_call hE.1 hW hU hw.2.2.2.1 (va_free hw.2.2.1 hw.2.2.2.1 hw.2.2.2.2 [14, 15, 16, 17, 18, 19, 20, 21, 22, 23, 24, 25, 26, 27, 28, 29, 30, 31] rfl), ncX_al hW.alike hE.2⟩)) rfl rfl hl.1 rfl (lv_room (Nat.le_of_ble_eq_true rfl)) d_L_law_835 ⟨by show _ + 1 ≤ 628987; omega, by show _ + 6 ≤ 7209143; omega⟩) hw [14, 15, 16, 17, 18, 19, 20, 21, 22, 23, 24, 25, 26, 27, 28, 29, 30, 31] [0, 1, 2, 3, 4, 5, 6, 7, 8, 9, 10, 11, 12, 13] rfl rfl (by decide) (by decide) rfl (fun H locs hw => ?_)
      refine W.widen (k := 33 + k0) (n := 747 + 6 * k0) (by omega) (by omega) ?_
      subst hk0
      exact key H locs hw
    | 2, hj =>
      cases hj
      refine kb_calli (wc := wH o cO f A G M) (wr := wM B E N) (w1 := wH o cO f A G M') (ws' := wL o cO f A G M' B E N) (vx_runSW (As := [.ref (A 0), .int (xs (x4 + 1).toNatClampNeg), .ref o]) (rest := []) ⟨hx, hb, hml, hown, htt⟩ (t2_L_load l hlt D o cO f A G (xs (x4 + 1).toNatClampNeg) M M' H.size h) (vx_cwSW 3 htt (wsLaw_S mL_56 mL_57 mL_0 mL_58) rfl rfl rfl q_L_load ⟨by show 10 + 1 ≤ 2048; omega, by show 8 + (4 + 11) + 163 ≤ 84000; omega⟩) (kb_preSh (NN' := eH (va_A (wH o cO f A G M) H.size)) eH_b hw [14, 15, 16, 17, 18, 19, 20, 21, 22, 23, 24, 25, 26, 27, 28, 29, 30, 31] [13, 14, 15, 16, 17, 18, 19, 20, 21, 22, 23, 24, 25, 26] rfl rfl (by decide) rfl (fun U hU hW => ⟨eeC_call hE.1 hW hU hw.2.2.2.1 (va_free hw.2.2.1 hw.2.2.2.1 hw.2.2.2.2 [14, 15, 16, 17, 18, 19, 20, 21, 22, 23, 24, 25, 26, 27, 28, 29, 30, 31] rfl), ncX_al hW.alike hE.2⟩)) rfl rfl hl.1 rfl (lv_room (Nat.le_of_ble_eq_true rfl)) d_L_law_835 ⟨by show _ + 1 ≤ 628987; omega, by show _ + 6 ≤ 7209143; omega⟩) hw [14, 15, 16, 17, 18, 19, 20, 21, 22, 23, 24, 25, 26, 27, 28, 29, 30, 31] [0, 1, 2, 3, 4, 5, 6, 7, 8, 9, 10, 11, 12, 13] rfl rfl (by decide) (by decide) rfl (fun H locs hw => ?_)
      refine W.widen (k := 33 + k0) (n := 747 + 6 * k0) (by omega) (by omega) ?_
      subst hk0
      exact key H locs hw
    | j + 3, hj => simp at hj
