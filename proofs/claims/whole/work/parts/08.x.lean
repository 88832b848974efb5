/-! EXCEPTIONS that leave the class's methods -/
def kb_ex : Nat → String
  | 1 => "java/lang/IndexOutOfBoundsException"
  | 2 => "java/lang/IllegalStateException"
  | 3 => "java/lang/IllegalArgumentException"
  | _ => "java/lang/UnsupportedOperationException"
def kb_up2 : List String := ["java/lang/RuntimeException", "java/lang/Exception"]
def bwC : List Cond := [.declares ⟨"java/lang/RuntimeException", "<init>", "(Ljava/lang/String;)V"⟩, .declares ⟨"java/lang/Exception", "<init>", "(Ljava/lang/String;)V"⟩, .declares ⟨"java/lang/Throwable", "<init>", "(Ljava/lang/String;)V"⟩, .castable (kb_ex 1) (kb_ex 1), .castable (kb_ex 2) (kb_ex 2), .castable (kb_ex 3) (kb_ex 3), .castable (kb_ex 4) (kb_ex 4)]
theorem va_Nw_face {w : Cond} {s U : State} (h1 : w.onTables = true) (h2 : w.keepsFace = true) (hW : s.WarmedH U.vm) (h : va_Nw w s) : va_Nw w U := va_tabs h1 (rfl : (s.setVm U.vm).vm = U.vm) (Cond.before_shiftedFace (args := #[]) (State.Shifted.of_warmed hW) w h2 h)
theorem bwC_ok : ∀ w ∈ bwC, w.onTables = true ∧ w.keepsFace = true := by
  intro w h
  simp only [bwC, List.mem_cons, List.not_mem_nil, or_false] at h
  rcases h with rfl | rfl | rfl | rfl | rfl | rfl | rfl <;> exact ⟨rfl, rfl⟩
def stC : List (String × Nat × String) := [("PileLifts", 36, "piles are 1 to 4, levels 1 to 5"), ("PileLifts", 56, "no such pile"), ("PileLifts", 59, "kilos are 1 to 1,000, a length 1 to 100"), ("PileLifts", 71, "no room, or it may not lie there"), ("PileLifts", 191, "no such piece"), ("PileLifts", 87, "the piece is gone"), ("PileLifts", 90, "a time is 0 to 99, or -1"), ("PileLifts", 104, "nodes are 0 to 100,000"), ("PileLifts", 114, "no search since something was told"), ("PileLifts", 196, "there is no plan"), ("PileLifts", 125, "what is 0 or 1"), ("PileLifts", 127, "the plan has no such move"), ("PileLifts", 135, "the plan has not so many moves"), ("PileLifts", 156, "what is 0 to 4"), ("PileLifts", 158, "tidy moves are 0 to 20"), ("PileLifts", 164, "an axle load is 1 to 5,000"), ("PileLifts", 169, "there are 4 wagons"), ("PileLifts", 174, "the piece is not gone, or is in a wagon"), ("PileLifts", 182, "no wagon has room")]
def eeC (A : Nat → Prop) (U : State) : Prop := nnC U ∧ (∀ w ∈ bwC, va_Nw w U) ∧ (∀ q ∈ stC, ∃ a, vk_R q.1 q.2.1 q.2.2 a U) ∧ vx_Zq Bundle.tN "UNASSIGNED_STACK" Bundle.steD A U U.heap ∧ vx_Zq Bundle.tN "SUPPRESSED_SENTINEL" Bundle.listD A U U.heap
def wsE_1 : List Cond := [Cond.classLink "PileLifts" 54 (kb_ex 1), Cond.initialized (kb_ex 1)] ++ (vx_atS "PileLifts" 58 (kb_ex 1) kb_up2).filter goodWord
def wsE_2 : List Cond := [Cond.classLink "PileLifts" 85 (kb_ex 2), Cond.initialized (kb_ex 2)] ++ (vx_atS "PileLifts" 89 (kb_ex 2) kb_up2).filter goodWord
def wsE_3 : List Cond := [Cond.classLink "PileLifts" 34 (kb_ex 3), Cond.initialized (kb_ex 3)] ++ (vx_atS "PileLifts" 38 (kb_ex 3) kb_up2).filter goodWord
def wsE_4 : List Cond := [Cond.classLink "PileLifts" 69 (kb_ex 4), Cond.initialized (kb_ex 4)] ++ (vx_atS "PileLifts" 73 (kb_ex 4) kb_up2).filter goodWord
def wsE : List Cond := wsE_1 ++ (wsE_2 ++ (wsE_3 ++ wsE_4))
def wsX : List Cond := wsC ++ wsE
theorem wsE_1_fit : Bundle.fit (kb_ex 1) = true := by decide +kernel
theorem wsE_1_rest : ∀ w ∈ (vx_atS "PileLifts" 58 (kb_ex 1) kb_up2).filter (fun w => !goodWord w), w ∈ bwC := by decide +kernel
theorem wsE_1_ot : ∀ w ∈ Cond.classLink "PileLifts" 54 (kb_ex 1) :: Cond.initialized (kb_ex 1) :: vx_atS "PileLifts" 58 (kb_ex 1) kb_up2, vx_ot w = true := by decide +kernel
theorem wsE_1_in {w : Cond} (h : w ∈ wsE_1) : w ∈ wsE := List.mem_append_left _ h
theorem wsE_1_at {args : Array Value} {s : State} (hte : ∀ w ∈ wsE, w.before args s = true) (hb : ∀ w ∈ bwC, va_Nw w s) : (Cond.classLink "PileLifts" 54 (kb_ex 1)).before args s = true ∧ (Cond.initialized (kb_ex 1)).before args s = true ∧ ∀ w ∈ vx_atS "PileLifts" 58 (kb_ex 1) kb_up2, w.before args s = true :=
  ⟨hte _ (wsE_1_in (List.mem_append_left _ (List.mem_of_getElem? (i := 0) rfl))), hte _ (wsE_1_in (List.mem_append_left _ (List.mem_of_getElem? (i := 1) rfl))), vx_hat (B := bwC) (fun w h => hte w (wsE_1_in (List.mem_append_right _ h))) wsE_1_rest (fun w h => va_Nw.use (bwC_ok w h).1 (hb w h))⟩
theorem wsE_2_fit : Bundle.fit (kb_ex 2) = true := by decide +kernel
theorem wsE_2_rest : ∀ w ∈ (vx_atS "PileLifts" 89 (kb_ex 2) kb_up2).filter (fun w => !goodWord w), w ∈ bwC := by decide +kernel
theorem wsE_2_ot : ∀ w ∈ Cond.classLink "PileLifts" 85 (kb_ex 2) :: Cond.initialized (kb_ex 2) :: vx_atS "PileLifts" 89 (kb_ex 2) kb_up2, vx_ot w = true := by decide +kernel
theorem wsE_2_in {w : Cond} (h : w ∈ wsE_2) : w ∈ wsE := List.mem_append_right _ (List.mem_append_left _ h)
theorem wsE_2_at {args : Array Value} {s : State} (hte : ∀ w ∈ wsE, w.before args s = true) (hb : ∀ w ∈ bwC, va_Nw w s) : (Cond.classLink "PileLifts" 85 (kb_ex 2)).before args s = true ∧ (Cond.initialized (kb_ex 2)).before args s = true ∧ ∀ w ∈ vx_atS "PileLifts" 89 (kb_ex 2) kb_up2, w.before args s = true :=
  ⟨hte _ (wsE_2_in (List.mem_append_left _ (List.mem_of_getElem? (i := 0) rfl))), hte _ (wsE_2_in (List.mem_append_left _ (List.mem_of_getElem? (i := 1) rfl))), vx_hat (B := bwC) (fun w h => hte w (wsE_2_in (List.mem_append_right _ h))) wsE_2_rest (fun w h => va_Nw.use (bwC_ok w h).1 (hb w h))⟩
theorem wsE_3_fit : Bundle.fit (kb_ex 3) = true := by decide +kernel
theorem wsE_3_rest : ∀ w ∈ (vx_atS "PileLifts" 38 (kb_ex 3) kb_up2).filter (fun w => !goodWord w), w ∈ bwC := by decide +kernel
theorem wsE_3_ot : ∀ w ∈ Cond.classLink "PileLifts" 34 (kb_ex 3) :: Cond.initialized (kb_ex 3) :: vx_atS "PileLifts" 38 (kb_ex 3) kb_up2, vx_ot w = true := by decide +kernel
theorem wsE_3_in {w : Cond} (h : w ∈ wsE_3) : w ∈ wsE := List.mem_append_right _ (List.mem_append_right _ (List.mem_append_left _ h))
theorem wsE_3_at {args : Array Value} {s : State} (hte : ∀ w ∈ wsE, w.before args s = true) (hb : ∀ w ∈ bwC, va_Nw w s) : (Cond.classLink "PileLifts" 34 (kb_ex 3)).before args s = true ∧ (Cond.initialized (kb_ex 3)).before args s = true ∧ ∀ w ∈ vx_atS "PileLifts" 38 (kb_ex 3) kb_up2, w.before args s = true :=
  ⟨hte _ (wsE_3_in (List.mem_append_left _ (List.mem_of_getElem? (i := 0) rfl))), hte _ (wsE_3_in (List.mem_append_left _ (List.mem_of_getElem? (i := 1) rfl))), vx_hat (B := bwC) (fun w h => hte w (wsE_3_in (List.mem_append_right _ h))) wsE_3_rest (fun w h => va_Nw.use (bwC_ok w h).1 (hb w h))⟩
theorem wsE_4_fit : Bundle.fit (kb_ex 4) = true := by decide +kernel
theorem wsE_4_rest : ∀ w ∈ (vx_atS "PileLifts" 73 (kb_ex 4) kb_up2).filter (fun w => !goodWord w), w ∈ bwC := by decide +kernel
theorem wsE_4_ot : ∀ w ∈ Cond.classLink "PileLifts" 69 (kb_ex 4) :: Cond.initialized (kb_ex 4) :: vx_atS "PileLifts" 73 (kb_ex 4) kb_up2, vx_ot w = true := by decide +kernel
theorem wsE_4_in {w : Cond} (h : w ∈ wsE_4) : w ∈ wsE := List.mem_append_right _ (List.mem_append_right _ (List.mem_append_right _ h))
theorem wsE_4_at {args : Array Value} {s : State} (hte : ∀ w ∈ wsE, w.before args s = true) (hb : ∀ w ∈ bwC, va_Nw w s) : (Cond.classLink "PileLifts" 69 (kb_ex 4)).before args s = true ∧ (Cond.initialized (kb_ex 4)).before args s = true ∧ ∀ w ∈ vx_atS "PileLifts" 73 (kb_ex 4) kb_up2, w.before args s = true :=
  ⟨hte _ (wsE_4_in (List.mem_append_left _ (List.mem_of_getElem? (i := 0) rfl))), hte _ (wsE_4_in (List.mem_append_left _ (List.mem_of_getElem? (i := 1) rfl))), vx_hat (B := bwC) (fun w h => hte w (wsE_4_in (List.mem_append_right _ h))) wsE_4_rest (fun w h => va_Nw.use (bwC_ok w h).1 (hb w h))⟩
theorem wsE_good : wsE.all goodWord = true := by decide +kernel
theorem eeC_blind {A : Nat → Prop} (u U : State) (hv : u.vm = U.vm) (hh : u.heap = U.heap) (h : eeC A u) : eeC A U := by
  obtain ⟨h1, h2, h3, h4, h5⟩ := h
  have hal : u.vm.Alike U.vm := by rw [hv]; exact Vm.Alike.refl _
  refine ⟨nnC_same u U hv h1, fun w hw => va_Nw.same (bwC_ok w hw).1 hv (h2 w hw), fun q hq => ?_, ?_, ?_⟩
  · obtain ⟨a, ha⟩ := h3 q hq
    exact ⟨a, vk_R.same hv.symm ha⟩
  · rw [← hh]; exact h4.moved hal
  · rw [← hh]; exact h5.moved hal
/-- at a call: the callee's own changes lie within the caller's -/
theorem eeC_call {A B : Nat → Prop} {s U : State} {H : Heap} {locs : List Loc} (h : eeC A s) (hW : s.WarmedH U.vm) (hU : U.heap = H) (hS : va_S A s.heap H locs) (hAB : ∀ q, B q → A q) : eeC B U := by
  obtain ⟨h1, h2, h3, h4, h5⟩ := h
  refine ⟨nnC_warm s U hW h1, fun w hw => va_Nw_face (bwC_ok w hw).1 (bwC_ok w hw).2 hW (h2 w hw), fun q hq => ?_, ?_, ?_⟩
  · obtain ⟨a, ha⟩ := h3 q hq
    exact ⟨a, vk_R.warm hW ha⟩
  · rw [hU]; exact ((h4.kept hS.2.1).moved hW.alike).narrow hAB
  · rw [hU]; exact ((h5.kept hS.2.1).moved hW.alike).narrow hAB
abbrev kb_Xc (D : va_G) (cl : List vw_C) (tys : List (ClassId × FieldType)) (ws ws' : va_W) (sz k : Nat) : String → State → State → Prop :=
  vx_X (fun (_ : Unit) => True) (fun E (_ : Unit) t => E = kb_ex k ∧ kb_post D cl tys ws ws' sz t) (va_A ws sz)
abbrev kb_qi (ws : va_W) (sz : Nat) : Array Value → State → Outcome → State → Prop := va_Qi (fun (_ : Int32) (_ : Unit) => False) (fun _ _ => True) (va_A ws sz)
abbrev kb_qv (ws : va_W) (sz : Nat) : Array Value → State → Outcome → State → Prop := va_Qv (fun (_ : Unit) => False) (fun _ _ => True) (va_A ws sz)
abbrev kb_Cx (l : Launch) (y : MethodName) (wl : List Cond) (rm : Room) (av : List Value) (D : va_G) (cl : List vw_C) (tys : List (ClassId × FieldType)) (ws ws' : va_W) (Qc : Array Value → State → Outcome → State → Prop) (sz k : Nat) : Prop :=
  vx_Met l y wl rm (va_Pc av (kb_pre D cl tys ws (eeC (va_A ws sz)) sz)) Qc (kb_Xc D cl tys ws ws' sz k) 1 6 (va_A ws sz)
theorem kb_xt {k k' : Nat} {M M' : Nat → Nat → Int32} (h : some (k, M) = some (k', M')) : k = k' ∧ M = M' := by cases h; exact ⟨rfl, rfl⟩
def kb_xc {α : Type} (a b : Option α) : Option α := match a with
  | some q => some q
  | none => b
theorem kb_xc_some {α : Type} {a b : Option α} {r : α} (h : kb_xc a b = some r) : a = some r ∨ b = some r := by
  cases a with
  | none => exact Or.inr h
  | some q => exact Or.inl h
section KX
variable {p : Program} {l : Launch} {e : Env} {R : Room} {s : State} {m : MethodId} {args : Array Value} {below : List Frame} {meth : Method} {c : Code} {H : Heap} {locs : List Loc}
variable {cc : ByteArray} {pc : Nat} {ls : Array Slot} {rest st0 : List Value} {D : va_G} {cl : List vw_C} {tys : List (ClassId × FieldType)} {ws wn ws' : va_W} {sz k : Nat} {Qc : Array Value → State → Outcome → State → Prop} {av : Array Value}
theorem kb_xpost {t : State} (hw : kb_K D cl tys ws' s (va_A ws sz) H locs) (hvm : s.vm.Alike t.vm) (hz : H.size ≤ t.heap.size) (hk : ∀ q : Nat, q < H.size → t.heap[q]? = H[q]?) : kb_Xc D cl tys ws ws' sz k (kb_ex k) s t := by
  obtain ⟨hK, hP, hD, hS, hA⟩ := hw
  refine ⟨(), trivial, ⟨rfl, fun j q h => (hP j q h).kept (hk _ (hP j q h).lt), va_K.moved hvm hK, hD⟩, Nat.le_trans hS.1 hz, fun q h1 h2 => ?_⟩
  rw [hk q (Nat.lt_of_lt_of_le h1 hS.1)]
  exact hS.2.1 q h1 h2
theorem kb_throw (hexec : p.tables.exec = Jvm.exec) (hb : c.code = cc) (hl : l.stackTraces = false) {text : String} {ik is ic : Nat}
    (hown : s.vm.findClass "PileLifts" = some m.cls) (hfit : Bundle.fit (kb_ex k) = true) (hat : (Cond.classLink "PileLifts" ik (kb_ex k)).before args s = true ∧ (Cond.initialized (kb_ex k)).before args s = true ∧ ∀ w ∈ vx_atS "PileLifts" ic (kb_ex k) kb_up2, w.before args s = true)
    (hot : ∀ w ∈ Cond.classLink "PileLifts" ik (kb_ex k) :: Cond.initialized (kb_ex k) :: vx_atS "PileLifts" ic (kb_ex k) kb_up2, vx_ot w = true) (hE : eeC (va_A ws sz) s) (hst : ("PileLifts", is, text) ∈ stC)
    (hw : kb_K D cl tys ws' s (va_A ws sz) H locs) (hsize : ls.size = c.maxLocals) (htab : ∀ x ∈ c.exceptionTable.toList, False)
    (d0 : decode cc pc = .ok (.new ik, 3)) (d3 : decode cc (pc + 3) = .ok (.dup, 1)) (d4 : decode cc (pc + 4) = .ok (.ldc is, 2)) (d6 : decode cc (pc + 6) = .ok (.invokespecial ic, 3)) (d9 : decode cc (pc + 9) = .ok (.athrow, 1))
    (hR : 5 < R.frames ∧ (rest.map fun v => v.category).sum + 82 ≤ R.locals ∧ 1 ≤ R.cells ∧ 6 ≤ R.slots) (hlocks : meth.locks = false) :
    W p l e R s m args below meth c H locs 0 0 (vx_MQ below Qc (kb_Xc D cl tys ws ws' sz k) args s 1 6 (va_A ws sz)) (F0 m pc ls rest) := by
  obtain ⟨sa, hs⟩ := hE.2.2.1 _ hst
  exact vx_throwS (names := kb_up2) (A := va_A ws sz) hexec hb hl hown hfit (by decide +kernel) hat.1 hat.2.1 hs hat.2.2 hot hE.2.2.2.1 hE.2.2.2.2 hw.2.2.2.1 hsize d0 d3 d4 d6 d9 (fun x h => (htab x h).elim) hR.1 hR.2.1 hR.2.2.1 hR.2.2.2 hlocks (fun t hvm hz hk => kb_xpost hw hvm hz hk) hw.2.2.2.1.2.2 (Nat.le_refl 1) (Nat.le_refl 6)
/-- a callee throws, and the exception leaves this method too -/
theorem kb_thruv (hr : vx_Run p l e R s m args below meth c H locs 0 0 1 6 (F0 m pc ls st0) rest (kb_qv wn H.size av) (kb_Xc D cl tys wn ws' H.size k) (va_A wn H.size)) (hw : kb_K D cl tys wn s (va_A ws sz) H locs) (htab : ∀ x ∈ c.exceptionTable.toList, False) (hlocks : meth.locks = false) :
    W p l e R s m args below meth c H locs 0 0 (vx_MQ below Qc (kb_Xc D cl tys ws ws' sz k) args s 1 6 (va_A ws sz)) (F0 m pc ls st0) := by
  have hF := va_free (wc := wn) hw.2.2.1 hw.2.2.2.1 hw.2.2.2.2 (List.range wn.length) (kb_all wn)
  refine vx_callv hr hw.2.2.2.1 (fun q _ h => hF q h) hF (fun q _ h => hF q h) (fun E ce q9 u t H1 locs1 ht hvm hp hB hz hk hS hcell hv hcl => ?_) (fun u t H1 locs1 ht hvm hp => hp.elim)
  obtain ⟨rfl, hpost⟩ := hB
  have hw1 : kb_K D cl tys ws' s (va_A ws sz) H1 locs1 := kb_behind (wr := []) hw (List.range wn.length) [] (kb_all wn) rfl rfl (fun i h => by cases h) rfl ht hpost hk hS
  exact vx_out (fun x h => (htab x h).elim) hlocks hcell hv hcl (fun t' ht' hvm' => kb_xpost hw1 hvm' (by rw [ht']; exact Nat.le_refl _) (fun q _ => by rw [ht'])) hw1.2.2.2.1.2.2 (Nat.le_refl 1) (Nat.le_refl 6)
theorem kb_preVx {b ci : Nat} {fs : List Value} {C : String} {T : u_T} {N : Nat} {As : List Value} (hw : kb_K D cl tys wn s (va_A ws sz) H locs) (hE : eeC (va_A ws sz) s) (q0 : Nat) (he : wn[q0]? = some (b, .inr (ci, fs))) (hc : cl[ci]? = some (C, T, N)) :
    PreV s H C b (va_Pc (.ref b :: As) (kb_pre D cl tys wn (eeC (va_A wn H.size)) H.size)) As :=
  ⟨fun a U g mk q => by
    obtain ⟨q0, q1, qP, qK, qD, qN⟩ := q
    exact ⟨q0, q1, qP, va_K.moved (u := U) (U := U.calling g mk a) (Vm.Alike.refl U.vm) qK, qD, eeC_blind U (U.calling g mk a) rfl rfl qN⟩, va_recv hw.1 hw.2.1 hc he, fun U hU hW => ⟨rfl, by rw [hU], by rw [hU]; exact hw.2.1, va_K.moved hW.alike hw.1, hw.2.2.1.weaken (fun _ _ _ _ => trivial), eeC_call hE hW hU hw.2.2.2.1 (va_free hw.2.2.1 hw.2.2.2.1 hw.2.2.2.2 (List.range wn.length) (kb_all wn))⟩⟩
end KX
