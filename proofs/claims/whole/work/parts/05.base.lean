/-! THE BASE: a system's memory as numbers, mirrors of methods, one predicate for a walk's world, rows over it -/
def kb_F : Nat := 10000000
def kb_up (M : Nat → Nat → Int32) (k : Nat) (f : Nat → Int32) : Nat → Nat → Int32 := fun j => if j = k then f else M j
def kb_rd {α : Type} (f : Nat → Int32) (n : Nat) (j : Int32) (k : Int32 → Option α) : Option α := if j < 0 ∨ n ≤ j.toNatClampNeg then none else k (f j.toNatClampNeg)
def kb_wr {α : Type} (M : Nat → Nat → Int32) (c n : Nat) (j x : Int32) (k : (Nat → Nat → Int32) → Option α) : Option α := if j < 0 ∨ n ≤ j.toNatClampNeg then none else k (kb_up M c (upd (M c) j.toNatClampNeg x))
def kb_st {α β : Type} (x : β) (k : β → Option α) : Option α := k x
def kb_bz {α : Type} (x : Int32) (k : Option α) : Option α := if x = 0 ∨ x = 1 then k else none
theorem kb_rd_some {α : Type} {f : Nat → Int32} {n : Nat} {j : Int32} {k : Int32 → Option α} {r : α} (h : kb_rd f n j k = some r) : ∃ v, v = f j.toNatClampNeg ∧ vp_in j n ∧ k v = some r := by
  unfold kb_rd at h
  by_cases c : j < 0 ∨ n ≤ j.toNatClampNeg
  · rw [if_pos c] at h; cases h
  · rw [if_neg c] at h; exact ⟨_, rfl, c, h⟩
theorem kb_wr_some {α : Type} {M : Nat → Nat → Int32} {c n : Nat} {j x : Int32} {k : (Nat → Nat → Int32) → Option α} {r : α} (h : kb_wr M c n j x k = some r) : ∃ M', M' = kb_up M c (upd (M c) j.toNatClampNeg x) ∧ vp_in j n ∧ k M' = some r := by
  unfold kb_wr at h
  by_cases c : j < 0 ∨ n ≤ j.toNatClampNeg
  · rw [if_pos c] at h; cases h
  · rw [if_neg c] at h; exact ⟨_, rfl, c, h⟩
theorem kb_st_some {α β : Type} {x : β} {k : β → Option α} {r : α} (h : kb_st x k = some r) : ∃ y, y = x ∧ k y = some r := ⟨x, rfl, h⟩
theorem kb_bz_some {α : Type} {x : Int32} {k : Option α} {r : α} (h : kb_bz x k = some r) : (x = 0 ∨ x = 1) ∧ k = some r := by
  unfold kb_bz at h
  by_cases c : x = 0 ∨ x = 1
  · rw [if_pos c] at h; exact ⟨c, h⟩
  · rw [if_neg c] at h; cases h
theorem kb_bd {α β : Type} {x : Option α} {k : α → Option β} {r : β} (h : x.bind k = some r) : ∃ a, x = some a ∧ k a = some r := by
  cases x with
  | none => cases h
  | some a => exact ⟨a, rfl, h⟩
theorem kb_ip {c : Prop} [Decidable c] {α : Type} {a b r : α} (hc : c) (h : (if c then a else b) = r) : a = r := by rw [if_pos hc] at h; exact h
theorem kb_in {c : Prop} [Decidable c] {α : Type} {a b r : α} (hc : ¬ c) (h : (if c then a else b) = r) : b = r := by rw [if_neg hc] at h; exact h
theorem kb_rt {r r' : Int32} {M M' : Nat → Nat → Int32} (h : some (r, M) = some (r', M')) : r = r' ∧ M = M' := by cases h; exact ⟨rfl, rfl⟩
/-- a walk's world -/
def kb_K (D : va_G) (cl : List vw_C) (tys : List (ClassId × FieldType)) (ws : va_W) (s : State) (A0 : Nat → Prop) (H : Heap) (locs : List Loc) : Prop :=
  va_K D cl tys s ∧ va_P D cl ws H ∧ va_D A0 ws ∧ va_S A0 s.heap H locs ∧ ∀ q, s.heap.size ≤ q → A0 q
def kb_pre (D : va_G) (cl : List vw_C) (tys : List (ClassId × FieldType)) (ws : va_W) (NN : State → Prop) (sz : Nat) (U : State) : Prop :=
  U.heap.size = sz ∧ va_P D cl ws U.heap ∧ va_K D cl tys U ∧ va_D (fun _ => True) ws ∧ NN U
def kb_post (D : va_G) (cl : List vw_C) (tys : List (ClassId × FieldType)) (ws ws' : va_W) (sz : Nat) (t : State) : Prop :=
  va_P D cl ws' t.heap ∧ va_K D cl tys t ∧ va_D (va_A ws sz) ws'
theorem kb_enter {D : va_G} {cl : List vw_C} {tys : List (ClassId × FieldType)} {ws : va_W} {NN : State → Prop} {sz : Nat} {s : State} (h : kb_pre D cl tys ws NN sz s) : kb_K D cl tys ws s (va_A ws sz) s.heap [] ∧ NN s := by
  obtain ⟨rfl, hP, hK, hD, hN⟩ := h
  exact ⟨⟨hK, hP, hD.self, va_S.rf, fun q h => Or.inr h⟩, hN⟩
section KB
variable {p : Program} {l : Launch} {e : Env} {R : Room} {s : State} {m : MethodId} {args : Array Value} {below : List Frame} {meth : Method} {c : Code} {H : Heap} {locs : List Loc} {cells slots : Nat} {Q : State → Prop}
variable {cc : ByteArray} {pc : Nat} {ls : Array Slot} {rest : List Value} {D : va_G} {cl : List vw_C} {A0 : Nat → Prop} {a : Nat} {tys : List (ClassId × FieldType)} {ws ws' : va_W}
theorem kb_get (hexec : p.tables.exec = Jvm.exec) (hb : c.code = cc) {own ref C : String} {T : u_T} {N ci index : Nat} {Ts : List Cond} (hts : ∀ w ∈ Ts, w.before args s = true) (hin : ∀ w ∈ u_ws C T N, w ∈ Ts) (hown : s.vm.findClass own = some m.cls) (hw : kb_K D cl tys ws s A0 H locs) (q0 : Nat) {fs : List Value} (he : ws[q0]? = some (a, .inr (ci, fs))) (hc : cl[ci]? = some (C, T, N)) (k : Nat) (hk : k < N) (hlink : (Cond.fieldLink own index ref (T k).2.1 (T k).2.2.1).before args s = true) (hsame : (T k).1 = ref) {v : Value} (hv : fs[k]? = some v) (hdg : decode cc pc = .ok (.getfield index, 3))
    (kk : W p l e R s m args below meth c H locs cells slots Q (F0 m (pc + 3) ls (v :: rest))) : W p l e R s m args below meth c H locs cells slots Q (F0 m pc ls (.ref a :: rest)) :=
  va_get hexec hb hts hin hown hw.1 hw.2.1 q0 he hc k hk hlink (fun x h => by rw [← hsame]; exact h) hv hdg kk
theorem kb_getN (hexec : p.tables.exec = Jvm.exec) (hb : c.code = cc) {own ref C host : String} {T : u_T} {N ci index : Nat} {Ts : List Cond} (hts : ∀ w ∈ Ts, w.before args s = true) (hin : ∀ w ∈ u_ws C T N, w ∈ Ts) (hown : s.vm.findClass own = some m.cls) (hw : kb_K D cl tys ws s A0 H locs) (q0 : Nat) {fs : List Value} (he : ws[q0]? = some (a, .inr (ci, fs))) (hc : cl[ci]? = some (C, T, N)) (k : Nat) (hk : k < N) (hlink : (Cond.fieldLinkNest own index ref (T k).2.1 (T k).2.2.1 host).before args s = true) (hsame : (T k).1 = ref) {v : Value} (hv : fs[k]? = some v) (hdg : decode cc pc = .ok (.getfield index, 3))
    (kk : W p l e R s m args below meth c H locs cells slots Q (F0 m (pc + 3) ls (v :: rest))) : W p l e R s m args below meth c H locs cells slots Q (F0 m pc ls (.ref a :: rest)) :=
  va_getN hexec hb hts hin hown hw.1 hw.2.1 q0 he hc k hk hlink (fun x h => by rw [← hsame]; exact h) hv hdg kk
theorem kb_put (hexec : p.tables.exec = Jvm.exec) (hb : c.code = cc) {own ref C : String} {T : u_T} {N ci index : Nat} {Ts : List Cond} (hts : ∀ w ∈ Ts, w.before args s = true) (hin : ∀ w ∈ u_ws C T N, w ∈ Ts) (ty0 : Nat → FieldType) (hty : ∀ k, k < N → parseFieldDescriptor (T k).2.2.1 = some (ty0 k)) (hnm : ∀ a, a < N → ∀ b, b < N → a ≠ b → (T a).2.1 ≠ (T b).2.1) (hown : s.vm.findClass own = some m.cls) (hw : kb_K D cl tys ws s A0 H locs) (q0 : Nat) {fs : List Value} (he : ws[q0]? = some (a, .inr (ci, fs))) (hc : cl[ci]? = some (C, T, N)) (k : Nat) (hk : k < N) (hlink : (Cond.fieldLink own index ref (T k).2.1 (T k).2.2.1).before args s = true) (hsame : (T k).1 = ref) (hfin : (T k).2.2.2 = false) {ty : FieldType} {v : Value} (hd : parseFieldDescriptor (T k).2.2.1 = some ty) (hn : narrow ty v = v) (hfit : fits ty v = true) (hl : k < fs.length)
    (hdg : decode cc pc = .ok (.putfield index, 3)) (hset : ws.set q0 (a, .inr (ci, fs.set k v)) = ws') (kk : ∀ (H1 : Heap) (locs1 : List Loc), kb_K D cl tys ws' s A0 H1 locs1 → W p l e R s m args below meth c H1 locs1 cells slots Q (F0 m (pc + 3) ls rest)) : W p l e R s m args below meth c H locs cells slots Q (F0 m pc ls (v :: .ref a :: rest)) :=
  va_put hexec hb hts hin ty0 hty hnm hown hw.1 hw.2.1 hw.2.2.1 hw.2.2.2.1 q0 he hc k hk hlink (fun x h => by rw [← hsame]; exact h) hfin hd hn hfit hl hdg (fun H1 locs1 h1 h2 h3 => kk H1 locs1 ⟨hw.1, hset ▸ h1, hset ▸ h2, h3, hw.2.2.2.2⟩)
theorem kb_putN (hexec : p.tables.exec = Jvm.exec) (hb : c.code = cc) {own ref C host : String} {T : u_T} {N ci index : Nat} {Ts : List Cond} (hts : ∀ w ∈ Ts, w.before args s = true) (hin : ∀ w ∈ u_ws C T N, w ∈ Ts) (ty0 : Nat → FieldType) (hty : ∀ k, k < N → parseFieldDescriptor (T k).2.2.1 = some (ty0 k)) (hnm : ∀ a, a < N → ∀ b, b < N → a ≠ b → (T a).2.1 ≠ (T b).2.1) (hown : s.vm.findClass own = some m.cls) (hw : kb_K D cl tys ws s A0 H locs) (q0 : Nat) {fs : List Value} (he : ws[q0]? = some (a, .inr (ci, fs))) (hc : cl[ci]? = some (C, T, N)) (k : Nat) (hk : k < N) (hlink : (Cond.fieldLinkNest own index ref (T k).2.1 (T k).2.2.1 host).before args s = true) (hsame : (T k).1 = ref) (hfin : (T k).2.2.2 = false) {ty : FieldType} {v : Value} (hd : parseFieldDescriptor (T k).2.2.1 = some ty) (hn : narrow ty v = v) (hfit : fits ty v = true) (hl : k < fs.length)
    (hdg : decode cc pc = .ok (.putfield index, 3)) (hset : ws.set q0 (a, .inr (ci, fs.set k v)) = ws') (kk : ∀ (H1 : Heap) (locs1 : List Loc), kb_K D cl tys ws' s A0 H1 locs1 → W p l e R s m args below meth c H1 locs1 cells slots Q (F0 m (pc + 3) ls rest)) : W p l e R s m args below meth c H locs cells slots Q (F0 m pc ls (v :: .ref a :: rest)) :=
  va_putN hexec hb hts hin ty0 hty hnm hown hw.1 hw.2.1 hw.2.2.1 hw.2.2.2.1 q0 he hc k hk hlink (fun x h => by rw [← hsame]; exact h) hfin hd hn hfit hl hdg (fun H1 locs1 h1 h2 h3 => kk H1 locs1 ⟨hw.1, hset ▸ h1, hset ▸ h2, h3, hw.2.2.2.2⟩)
theorem kb_ald (hexec : p.tables.exec = Jvm.exec) (hb : c.code = cc) (hw : kb_K D cl tys ws s A0 H locs) (q0 t0 : Nat) {cA : ClassId} {n : Nat} {f : Nat → Int32} (ha : ws[q0]? = some (a, .inl (cA, n, .inl f))) (ht : tys[t0]? = some (cA, .int)) {i v : Int32} (hin : vp_in i n) (hv : v = f i.toNatClampNeg) (hdg : decode cc pc = .ok (.iaload, 1))
    (kk : W p l e R s m args below meth c H locs cells slots Q (F0 m (pc + 1) ls (.int v :: rest))) : W p l e R s m args below meth c H locs cells slots Q (F0 m pc ls (.int i :: .ref a :: rest)) :=
  va_iald hexec hb hw.1 hw.2.1 q0 t0 ha ht hin hdg (hv ▸ kk)
theorem kb_ast (hexec : p.tables.exec = Jvm.exec) (hb : c.code = cc) (hw : kb_K D cl tys ws s A0 H locs) (q0 t0 : Nat) {cA : ClassId} {n : Nat} {f : Nat → Int32} (ha : ws[q0]? = some (a, .inl (cA, n, .inl f))) (ht : tys[t0]? = some (cA, .int)) {i x : Int32} (hin : vp_in i n) (hdg : decode cc pc = .ok (.iastore, 1)) (hset : ws.set q0 (a, .inl (cA, n, .inl (upd f i.toNatClampNeg x))) = ws')
    (kk : ∀ (H1 : Heap) (locs1 : List Loc), kb_K D cl tys ws' s A0 H1 locs1 → W p l e R s m args below meth c H1 locs1 cells slots Q (F0 m (pc + 1) ls rest)) : W p l e R s m args below meth c H locs cells slots Q (F0 m pc ls (.int x :: .int i :: .ref a :: rest)) :=
  va_iast hexec hb hw.1 hw.2.1 hw.2.2.1 hw.2.2.2.1 q0 t0 ha ht hin hdg (fun H1 locs1 h1 h2 h3 => kk H1 locs1 ⟨hw.1, hset ▸ h1, hset ▸ h2, h3, hw.2.2.2.2⟩)
end KB
section KC
variable {p : Program} {l : Launch} {e : Env} {R : Room} {s : State} {m : MethodId} {args : Array Value} {below : List Frame} {meth : Method} {c : Code} {H : Heap} {locs : List Loc} {cells slots : Nat} {Q : State → Prop}
variable {cc : ByteArray} {pc : Nat} {ls : Array Slot} {rest st0 : List Value} {D : va_G} {cl : List vw_C} {A0 : Nat → Prop} {a : Nat} {tys tyc : List (ClassId × FieldType)} {ws ws' wc wr w1 : va_W} {av : Array Value} {mc ms : Nat}
theorem kb_behind {t : State} {H1 : Heap} {locs1 : List Loc} (hw : kb_K D cl tys ws s A0 H locs) (isC isR : List Nat) (hC : isC.map (fun i => ws[i]?) = wc.map some) (hR : isR.map (fun i => ws[i]?) = wr.map some) (hn : va_nd isR = true) (hdis : ∀ i ∈ isR, i ∉ isC) (hws : wr ++ w1 = ws')
    (ht : t.heap = H1) (hB : kb_post D cl tyc wc w1 H.size t) (hk : ∀ q : Nat, q < H.size → ¬ va_A wc H.size q → H1[q]? = H[q]?) (hS : va_S A0 s.heap H1 locs1) : kb_K D cl tys ws' s A0 H1 locs1 := by
  obtain ⟨hK, hP, hD, hS0, hA⟩ := hw
  obtain ⟨hP1, -, hD1⟩ := hB
  rw [ht] at hP1
  obtain ⟨h1, h2⟩ := va_join hP hD isC isR hC hR hn hdis hk (va_free hD hS0 hA isC hC) hP1 hD1
  exact ⟨hK, hws ▸ h1, hws ▸ h2, hS, hA⟩
theorem kb_calli {r : Int32} (hr : va_Run p l e R s m args below meth c H locs cells slots mc ms (F0 m pc ls st0) rest (va_Qi (fun r' (_ : Unit) => r' = r) (fun _ t => kb_post D cl tyc wc w1 H.size t) (va_A wc H.size) av) (va_A wc H.size)) (hw : kb_K D cl tys ws s A0 H locs) (isC isR : List Nat) (hC : isC.map (fun i => ws[i]?) = wc.map some) (hR : isR.map (fun i => ws[i]?) = wr.map some) (hn : va_nd isR = true) (hdis : ∀ i ∈ isR, i ∉ isC) (hws : wr ++ w1 = ws')
    (kk : ∀ (H1 : Heap) (locs1 : List Loc), kb_K D cl tys ws' s A0 H1 locs1 → W p l e R s m args below meth c H1 locs1 (cells + mc) (slots + ms) Q (F0 m (pc + 3) ls (.int r :: rest))) : W p l e R s m args below meth c H locs cells slots Q (F0 m pc ls st0) := by
  have hF := va_free (wc := wc) hw.2.2.1 hw.2.2.2.1 hw.2.2.2.2 isC hC
  refine va_calli hr hw.2.2.2.1 (fun q _ h => hF q h) hF (fun r' u t H1 locs1 ht hvm hp hB hz hk hS => ?_)
  subst hp
  exact kk H1 locs1 (kb_behind hw isC isR hC hR hn hdis hws ht hB hk hS)
theorem kb_callv (hr : va_Run p l e R s m args below meth c H locs cells slots mc ms (F0 m pc ls st0) rest (va_Qv (fun (_ : Unit) => True) (fun _ t => kb_post D cl tyc wc w1 H.size t) (va_A wc H.size) av) (va_A wc H.size)) (hw : kb_K D cl tys ws s A0 H locs) (isC isR : List Nat) (hC : isC.map (fun i => ws[i]?) = wc.map some) (hR : isR.map (fun i => ws[i]?) = wr.map some) (hn : va_nd isR = true) (hdis : ∀ i ∈ isR, i ∉ isC) (hws : wr ++ w1 = ws')
    (kk : ∀ (H1 : Heap) (locs1 : List Loc), kb_K D cl tys ws' s A0 H1 locs1 → W p l e R s m args below meth c H1 locs1 (cells + mc) (slots + ms) Q (F0 m (pc + 3) ls rest)) : W p l e R s m args below meth c H locs cells slots Q (F0 m pc ls st0) := by
  have hF := va_free (wc := wc) hw.2.2.1 hw.2.2.2.1 hw.2.2.2.2 isC hC
  refine va_callv hr hw.2.2.2.1 (fun q _ h => hF q h) hF (fun u t H1 locs1 ht hvm hp hB hz hk hS => ?_)
  exact kk H1 locs1 (kb_behind hw isC isR hC hR hn hdis hws ht hB hk hS)
theorem kb_all (ws : va_W) : (List.range ws.length).map (fun i => ws[i]?) = ws.map some := by
  apply List.ext_getElem?
  intro i
  by_cases h : i < ws.length
  · simp [h]
  · simp [h]
end KC
def kb_cl {α : Type} (x : Option (Int32 × (Nat → Nat → Int32))) (k : Int32 → (Nat → Nat → Int32) → Option α) : Option α := x.bind fun q => k q.1 q.2
theorem kb_cl_some {α : Type} {x : Option (Int32 × (Nat → Nat → Int32))} {k : Int32 → (Nat → Nat → Int32) → Option α} {r : α} (h : kb_cl x k = some r) : ∃ r1 M1, x = some (r1, M1) ∧ k r1 M1 = some r := by
  cases x with
  | none => cases h
  | some q => exact ⟨q.1, q.2, rfl, h⟩
theorem kb_nz {v : Int32} (h : v = 0 ∨ v = 1) : narrow .boolean (.int v) = .int v := by rcases h with rfl | rfl <;> decide +kernel
theorem kb_fz {v : Int32} (h : v = 0 ∨ v = 1) : fits .boolean (.int v) = true := by rcases h with rfl | rfl <;> decide +kernel
abbrev kb_Ci (l : Launch) (y : MethodName) (wl : List Cond) (rm : Room) (av : List Value) (D : va_G) (cl : List vw_C) (tys : List (ClassId × FieldType)) (ws ws' : va_W) (NN : State → Prop) (sz : Nat) (r : Int32) : Prop :=
  Met l y wl rm (va_Pc av (kb_pre D cl tys ws NN sz)) (va_Qi (fun r' (_ : Unit) => r' = r) (fun _ t => kb_post D cl tys ws ws' sz t) (va_A ws sz)) 0 0 (va_A ws sz)
abbrev kb_Cv (l : Launch) (y : MethodName) (wl : List Cond) (rm : Room) (av : List Value) (D : va_G) (cl : List vw_C) (tys : List (ClassId × FieldType)) (ws ws' : va_W) (NN : State → Prop) (sz : Nat) : Prop :=
  Met l y wl rm (va_Pc av (kb_pre D cl tys ws NN sz)) (va_Qv (fun (_ : Unit) => True) (fun _ t => kb_post D cl tys ws ws' sz t) (va_A ws sz)) 0 0 (va_A ws sz)
section KR
variable {p : Program} {l : Launch} {e : Env} {R : Room} {s : State} {m : MethodId} {args : Array Value} {below : List Frame} {meth : Method} {c : Code} {H : Heap} {locs : List Loc} {cells slots : Nat}
variable {cc : ByteArray} {pc : Nat} {ls : Array Slot} {D : va_G} {cl : List vw_C} {tys : List (ClassId × FieldType)} {ws ws' : va_W} {sz : Nat} {r : Int32}
theorem kb_iret (hexec : p.tables.exec = Jvm.exec) (hb : c.code = cc) (hr : meth.sig.returnType = some .int) (hw : kb_K D cl tys ws' s (va_A ws sz) H locs) (hlocks : meth.locks = false) (hdg : decode cc pc = .ok (.ireturn, 1)) :
    W p l e R s m args below meth c H locs cells slots (MQ below (va_Qi (fun r' (_ : Unit) => r' = r) (fun _ t => kb_post D cl tys ws ws' sz t) (va_A ws sz)) args s cells slots (va_A ws sz)) (F0 m pc ls [.int r]) :=
  W.iret hexec hb hr (fun t ht hW => ⟨⟨r, (), rfl, rfl, by rw [ht]; exact hw.2.1, va_K.moved hW.alike hw.1, hw.2.2.1⟩, hw.2.2.2.1.F ht⟩) hw.2.2.2.1.2.2 hdg hlocks
theorem kb_zret (hexec : p.tables.exec = Jvm.exec) (hb : c.code = cc) (hr : meth.sig.returnType = some .boolean) (hw : kb_K D cl tys ws' s (va_A ws sz) H locs) (hlocks : meth.locks = false) (hz : r = 0 ∨ r = 1) (hdg : decode cc pc = .ok (.ireturn, 1)) :
    W p l e R s m args below meth c H locs cells slots (MQ below (va_Qi (fun r' (_ : Unit) => r' = r) (fun _ t => kb_post D cl tys ws ws' sz t) (va_A ws sz)) args s cells slots (va_A ws sz)) (F0 m pc ls [.int r]) :=
  W.zret hexec hb hr (kb_nz hz) (fun t ht hW => ⟨⟨r, (), rfl, rfl, by rw [ht]; exact hw.2.1, va_K.moved hW.alike hw.1, hw.2.2.1⟩, hw.2.2.2.1.F ht⟩) hw.2.2.2.1.2.2 hdg hlocks
theorem kb_vret (hexec : p.tables.exec = Jvm.exec) (hb : c.code = cc) (hr : meth.sig.returnType = none) (hw : kb_K D cl tys ws' s (va_A ws sz) H locs) (hlocks : meth.locks = false) (hdg : decode cc pc = .ok (.return_, 1)) :
    W p l e R s m args below meth c H locs cells slots (MQ below (va_Qv (fun (_ : Unit) => True) (fun _ t => kb_post D cl tys ws ws' sz t) (va_A ws sz)) args s cells slots (va_A ws sz)) (F0 m pc ls []) :=
  W.vret hexec hb hr (fun t ht hW => ⟨⟨(), rfl, trivial, by rw [ht]; exact hw.2.1, va_K.moved hW.alike hw.1, hw.2.2.1⟩, hw.2.2.2.1.F ht⟩) hw.2.2.2.1.2.2 hdg hlocks
end KR
def kb_nd {α : Type} (x : Int32) (k : Option α) : Option α := if x = 0 then none else k
theorem kb_nd_some {α : Type} {x : Int32} {k : Option α} {r : α} (h : kb_nd x k = some r) : (¬ x = 0) ∧ k = some r := by
  unfold kb_nd at h
  by_cases c : x = 0
  · rw [if_pos c] at h; cases h
  · rw [if_neg c] at h; exact ⟨c, h⟩
abbrev kb_Qi (D : va_G) (cl : List vw_C) (tys : List (ClassId × FieldType)) (ws ws' : va_W) (sz : Nat) (r : Int32) (below : List Frame) (args : Array Value) (s : State) : State → Prop :=
  MQ below (va_Qi (fun r' (_ : Unit) => r' = r) (fun _ t => kb_post D cl tys ws ws' sz t) (va_A ws sz)) args s 0 0 (va_A ws sz)
abbrev kb_Qv (D : va_G) (cl : List vw_C) (tys : List (ClassId × FieldType)) (ws ws' : va_W) (sz : Nat) (below : List Frame) (args : Array Value) (s : State) : State → Prop :=
  MQ below (va_Qv (fun (_ : Unit) => True) (fun _ t => kb_post D cl tys ws ws' sz t) (va_A ws sz)) args s 0 0 (va_A ws sz)
section KD
variable {p : Program} {l : Launch} {e : Env} {R : Room} {s : State} {m : MethodId} {args : Array Value} {below : List Frame} {meth : Method} {c : Code} {H : Heap} {locs : List Loc} {cells slots : Nat} {Q : State → Prop}
variable {pc : Nat} {ls : Array Slot} {rest st0 : List Value} {D : va_G} {cl : List vw_C} {A0 : Nat → Prop} {tys : List (ClassId × FieldType)} {ws w1 : va_W} {av : Array Value}
theorem kb_calli0 {r : Int32} (hr : va_Run p l e R s m args below meth c H locs cells slots 0 0 (F0 m pc ls st0) rest (va_Qi (fun r' (_ : Unit) => r' = r) (fun _ t => kb_post D cl tys ws w1 H.size t) (va_A ws H.size) av) (va_A ws H.size)) (hw : kb_K D cl tys ws s A0 H locs)
    (kk : ∀ (H1 : Heap) (locs1 : List Loc), kb_K D cl tys w1 s A0 H1 locs1 → W p l e R s m args below meth c H1 locs1 cells slots Q (F0 m (pc + 3) ls (.int r :: rest))) : W p l e R s m args below meth c H locs cells slots Q (F0 m pc ls st0) :=
  kb_calli (wr := []) hr hw (List.range ws.length) [] (kb_all ws) rfl rfl (fun i h => by cases h) rfl kk
theorem kb_callv0 (hr : va_Run p l e R s m args below meth c H locs cells slots 0 0 (F0 m pc ls st0) rest (va_Qv (fun (_ : Unit) => True) (fun _ t => kb_post D cl tys ws w1 H.size t) (va_A ws H.size) av) (va_A ws H.size)) (hw : kb_K D cl tys ws s A0 H locs)
    (kk : ∀ (H1 : Heap) (locs1 : List Loc), kb_K D cl tys w1 s A0 H1 locs1 → W p l e R s m args below meth c H1 locs1 cells slots Q (F0 m (pc + 3) ls rest)) : W p l e R s m args below meth c H locs cells slots Q (F0 m pc ls st0) :=
  kb_callv (wr := []) hr hw (List.range ws.length) [] (kb_all ws) rfl rfl (fun i h => by cases h) rfl kk
theorem kb_blind {NN : State → Prop} (hNs : ∀ u U : State, u.vm = U.vm → NN u → NN U) (av : List Value) (sz : Nat) : FrameBlind (va_Pc av (kb_pre D cl tys ws NN sz)) := fun a U g mk q => by
  obtain ⟨q0, q1, qP, qK, qD, qN⟩ := q
  exact ⟨q0, q1, qP, va_K.moved (u := U) (U := U.calling g mk a) (Vm.Alike.refl U.vm) qK, qD, hNs U (U.calling g mk a) rfl qN⟩
theorem kb_preU {NN : State → Prop} (hNw : ∀ s U : State, s.WarmedH U.vm → NN s → NN U) (hw : kb_K D cl tys ws s A0 H locs) (hN : NN s) {U : State} (hU : U.heap = H) (hW : s.WarmedH U.vm) : kb_pre D cl tys ws NN H.size U :=
  ⟨by rw [hU], by rw [hU]; exact hw.2.1, va_K.moved hW.alike hw.1, hw.2.2.1.weaken (fun _ _ _ _ => trivial), hNw s U hW hN⟩
theorem kb_preV {NN : State → Prop} (hNw : ∀ s U : State, s.WarmedH U.vm → NN s → NN U) (hNs : ∀ u U : State, u.vm = U.vm → NN u → NN U) (hw : kb_K D cl tys ws s A0 H locs) (hN : NN s) {b ci : Nat} {fs : List Value} {C : String} {T : u_T} {k : Nat} {As : List Value} (q0 : Nat) (he : ws[q0]? = some (b, .inr (ci, fs))) (hc : cl[ci]? = some (C, T, k)) :
    PreV s H C b (va_Pc (.ref b :: As) (kb_pre D cl tys ws NN H.size)) As :=
  ⟨kb_blind hNs _ _, va_recv hw.1 hw.2.1 hc he, fun U hU hW => ⟨rfl, kb_preU hNw hw hN hU hW⟩⟩
theorem kb_preS {NN : State → Prop} (hNw : ∀ s U : State, s.WarmedH U.vm → NN s → NN U) (hNs : ∀ u U : State, u.vm = U.vm → NN u → NN U) (hw : kb_K D cl tys ws s A0 H locs) (hN : NN s) {As : List Value} :
    PreS s H (va_Pc As (kb_pre D cl tys ws NN H.size)) As :=
  ⟨kb_blind hNs _ _, fun U hU hW => ⟨rfl, kb_preU hNw hw hN hU hW⟩⟩
end KD
def wC (A : Nat → Nat) (G : Nat → ClassId) (M : Nat → Nat → Int32) : va_W := [(A 0, .inr (0, [.ref (A 1), .ref (A 2), .ref (A 3)])), (A 1, .inr (1, [.int (M 1 0), .int (M 1 1), .int (M 1 2), .ref (A 4), .ref (A 5), .ref (A 6), .ref (A 7), .ref (A 8), .ref (A 9), .ref (A 10)])), (A 2, .inr (2, [.int (M 2 0), .int (M 2 1), .int (M 2 2), .int (M 2 3), .int (M 2 4), .int (M 2 5), .int (M 2 6), .ref (A 11), .ref (A 12), .ref (A 13)])), (A 3, .inr (3, [.int (M 3 0), .ref (A 14), .ref (A 15), .ref (A 16)])), (A 4, .inl (G 4, 4, .inl (M 4))), (A 5, .inl (G 5, 20, .inl (M 5))), (A 6, .inl (G 6, 10, .inl (M 6))), (A 7, .inl (G 7, 10, .inl (M 7))), (A 8, .inl (G 8, 10, .inl (M 8))), (A 9, .inl (G 9, 10, .inl (M 9))), (A 10, .inl (G 10, 10, .inl (M 10))), (A 11, .inl (G 11, 22, .inl (M 11))), (A 12, .inl (G 12, 22, .inl (M 12))), (A 13, .inl (G 13, 22, .inl (M 13))), (A 14, .inl (G 14, 4, .inl (M 14))), (A 15, .inl (G 15, 4, .inl (M 15))), (A 16, .inl (G 16, 10, .inl (M 16)))]
def tyC (G : Nat → ClassId) : List (ClassId × FieldType) := [(G 4, .int), (G 5, .int), (G 6, .int), (G 7, .int), (G 8, .int), (G 9, .int), (G 10, .int), (G 11, .int), (G 12, .int), (G 13, .int), (G 14, .int), (G 15, .int), (G 16, .int)]
theorem wC_0 (A : Nat → Nat) (G : Nat → ClassId) (M : Nat → Nat → Int32) : (wC A G M)[0]? = some (A 0, .inr (0, [.ref (A 1), .ref (A 2), .ref (A 3)])) := rfl
theorem wC_1 (A : Nat → Nat) (G : Nat → ClassId) (M : Nat → Nat → Int32) : (wC A G M)[1]? = some (A 1, .inr (1, [.int (M 1 0), .int (M 1 1), .int (M 1 2), .ref (A 4), .ref (A 5), .ref (A 6), .ref (A 7), .ref (A 8), .ref (A 9), .ref (A 10)])) := rfl
theorem wC_2 (A : Nat → Nat) (G : Nat → ClassId) (M : Nat → Nat → Int32) : (wC A G M)[2]? = some (A 2, .inr (2, [.int (M 2 0), .int (M 2 1), .int (M 2 2), .int (M 2 3), .int (M 2 4), .int (M 2 5), .int (M 2 6), .ref (A 11), .ref (A 12), .ref (A 13)])) := rfl
theorem wC_3 (A : Nat → Nat) (G : Nat → ClassId) (M : Nat → Nat → Int32) : (wC A G M)[3]? = some (A 3, .inr (3, [.int (M 3 0), .ref (A 14), .ref (A 15), .ref (A 16)])) := rfl
theorem wC_4 (A : Nat → Nat) (G : Nat → ClassId) (M : Nat → Nat → Int32) : (wC A G M)[4]? = some (A 4, .inl (G 4, 4, .inl (M 4))) := rfl
theorem wC_5 (A : Nat → Nat) (G : Nat → ClassId) (M : Nat → Nat → Int32) : (wC A G M)[5]? = some (A 5, .inl (G 5, 20, .inl (M 5))) := rfl
theorem wC_6 (A : Nat → Nat) (G : Nat → ClassId) (M : Nat → Nat → Int32) : (wC A G M)[6]? = some (A 6, .inl (G 6, 10, .inl (M 6))) := rfl
theorem wC_7 (A : Nat → Nat) (G : Nat → ClassId) (M : Nat → Nat → Int32) : (wC A G M)[7]? = some (A 7, .inl (G 7, 10, .inl (M 7))) := rfl
theorem wC_8 (A : Nat → Nat) (G : Nat → ClassId) (M : Nat → Nat → Int32) : (wC A G M)[8]? = some (A 8, .inl (G 8, 10, .inl (M 8))) := rfl
theorem wC_9 (A : Nat → Nat) (G : Nat → ClassId) (M : Nat → Nat → Int32) : (wC A G M)[9]? = some (A 9, .inl (G 9, 10, .inl (M 9))) := rfl
theorem wC_10 (A : Nat → Nat) (G : Nat → ClassId) (M : Nat → Nat → Int32) : (wC A G M)[10]? = some (A 10, .inl (G 10, 10, .inl (M 10))) := rfl
theorem wC_11 (A : Nat → Nat) (G : Nat → ClassId) (M : Nat → Nat → Int32) : (wC A G M)[11]? = some (A 11, .inl (G 11, 22, .inl (M 11))) := rfl
theorem wC_12 (A : Nat → Nat) (G : Nat → ClassId) (M : Nat → Nat → Int32) : (wC A G M)[12]? = some (A 12, .inl (G 12, 22, .inl (M 12))) := rfl
theorem wC_13 (A : Nat → Nat) (G : Nat → ClassId) (M : Nat → Nat → Int32) : (wC A G M)[13]? = some (A 13, .inl (G 13, 22, .inl (M 13))) := rfl
theorem wC_14 (A : Nat → Nat) (G : Nat → ClassId) (M : Nat → Nat → Int32) : (wC A G M)[14]? = some (A 14, .inl (G 14, 4, .inl (M 14))) := rfl
theorem wC_15 (A : Nat → Nat) (G : Nat → ClassId) (M : Nat → Nat → Int32) : (wC A G M)[15]? = some (A 15, .inl (G 15, 4, .inl (M 15))) := rfl
theorem wC_16 (A : Nat → Nat) (G : Nat → ClassId) (M : Nat → Nat → Int32) : (wC A G M)[16]? = some (A 16, .inl (G 16, 10, .inl (M 16))) := rfl
def wM (A : Nat → Nat) (G : Nat → ClassId) (M : Nat → Nat → Int32) : va_W := [(A 0, .inr (4, [.int (M 0 0), .int (M 0 1), .int (M 0 2), .int (M 0 3), .ref (A 1), .ref (A 2), .ref (A 3), .ref (A 4), .ref (A 5), .ref (A 6), .ref (A 7), .ref (A 8), .ref (A 9), .ref (A 10), .ref (A 11), .int (M 0 15), .int (M 0 16), .int (M 0 17), .int (M 0 18), .int (M 0 19), .ref (A 12), .ref (A 13)])), (A 1, .inl (G 1, 10, .inl (M 1))), (A 2, .inl (G 2, 10, .inl (M 2))), (A 3, .inl (G 3, 10, .inl (M 3))), (A 4, .inl (G 4, 10, .inl (M 4))), (A 5, .inl (G 5, 300, .inl (M 5))), (A 6, .inl (G 6, 60, .inl (M 6))), (A 7, .inl (G 7, 15, .inl (M 7))), (A 8, .inl (G 8, 15, .inl (M 8))), (A 9, .inl (G 9, 40, .inl (M 9))), (A 10, .inl (G 10, 40, .inl (M 10))), (A 11, .inl (G 11, 15, .inl (M 11))), (A 12, .inl (G 12, 4, .inl (M 12))), (A 13, .inl (G 13, 4, .inl (M 13)))]
def tyM (G : Nat → ClassId) : List (ClassId × FieldType) := [(G 1, .int), (G 2, .int), (G 3, .int), (G 4, .int), (G 5, .int), (G 6, .int), (G 7, .int), (G 8, .int), (G 9, .int), (G 10, .int), (G 11, .int), (G 12, .int), (G 13, .int)]
theorem wM_0 (A : Nat → Nat) (G : Nat → ClassId) (M : Nat → Nat → Int32) : (wM A G M)[0]? = some (A 0, .inr (4, [.int (M 0 0), .int (M 0 1), .int (M 0 2), .int (M 0 3), .ref (A 1), .ref (A 2), .ref (A 3), .ref (A 4), .ref (A 5), .ref (A 6), .ref (A 7), .ref (A 8), .ref (A 9), .ref (A 10), .ref (A 11), .int (M 0 15), .int (M 0 16), .int (M 0 17), .int (M 0 18), .int (M 0 19), .ref (A 12), .ref (A 13)])) := rfl
theorem wM_1 (A : Nat → Nat) (G : Nat → ClassId) (M : Nat → Nat → Int32) : (wM A G M)[1]? = some (A 1, .inl (G 1, 10, .inl (M 1))) := rfl
theorem wM_2 (A : Nat → Nat) (G : Nat → ClassId) (M : Nat → Nat → Int32) : (wM A G M)[2]? = some (A 2, .inl (G 2, 10, .inl (M 2))) := rfl
theorem wM_3 (A : Nat → Nat) (G : Nat → ClassId) (M : Nat → Nat → Int32) : (wM A G M)[3]? = some (A 3, .inl (G 3, 10, .inl (M 3))) := rfl
theorem wM_4 (A : Nat → Nat) (G : Nat → ClassId) (M : Nat → Nat → Int32) : (wM A G M)[4]? = some (A 4, .inl (G 4, 10, .inl (M 4))) := rfl
theorem wM_5 (A : Nat → Nat) (G : Nat → ClassId) (M : Nat → Nat → Int32) : (wM A G M)[5]? = some (A 5, .inl (G 5, 300, .inl (M 5))) := rfl
theorem wM_6 (A : Nat → Nat) (G : Nat → ClassId) (M : Nat → Nat → Int32) : (wM A G M)[6]? = some (A 6, .inl (G 6, 60, .inl (M 6))) := rfl
theorem wM_7 (A : Nat → Nat) (G : Nat → ClassId) (M : Nat → Nat → Int32) : (wM A G M)[7]? = some (A 7, .inl (G 7, 15, .inl (M 7))) := rfl
theorem wM_8 (A : Nat → Nat) (G : Nat → ClassId) (M : Nat → Nat → Int32) : (wM A G M)[8]? = some (A 8, .inl (G 8, 15, .inl (M 8))) := rfl
theorem wM_9 (A : Nat → Nat) (G : Nat → ClassId) (M : Nat → Nat → Int32) : (wM A G M)[9]? = some (A 9, .inl (G 9, 40, .inl (M 9))) := rfl
theorem wM_10 (A : Nat → Nat) (G : Nat → ClassId) (M : Nat → Nat → Int32) : (wM A G M)[10]? = some (A 10, .inl (G 10, 40, .inl (M 10))) := rfl
theorem wM_11 (A : Nat → Nat) (G : Nat → ClassId) (M : Nat → Nat → Int32) : (wM A G M)[11]? = some (A 11, .inl (G 11, 15, .inl (M 11))) := rfl
theorem wM_12 (A : Nat → Nat) (G : Nat → ClassId) (M : Nat → Nat → Int32) : (wM A G M)[12]? = some (A 12, .inl (G 12, 4, .inl (M 12))) := rfl
theorem wM_13 (A : Nat → Nat) (G : Nat → ClassId) (M : Nat → Nat → Int32) : (wM A G M)[13]? = some (A 13, .inl (G 13, 4, .inl (M 13))) := rfl
