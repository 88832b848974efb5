def wH (o : Nat) (cO : ClassId) (f : Nat → Int64) (A : Nat → Nat) (G : Nat → ClassId) (M : Nat → Nat → Int32) : va_W := [(o, .inl (cO, 1, .inr (.inl f)))] ++ wC A G M
def tyH (cO : ClassId) (G : Nat → ClassId) : List (ClassId × FieldType) := [(cO, .long)] ++ tyC G
def ncX (U : State) : Prop := va_Nc (kb_ex 2) (kb_ex 1) U ∧ va_Nc (kb_ex 3) (kb_ex 1) U ∧ va_Nc (kb_ex 3) (kb_ex 2) U ∧ va_Nc (kb_ex 4) (kb_ex 1) U ∧ va_Nc (kb_ex 4) (kb_ex 2) U ∧ va_Nc (kb_ex 4) (kb_ex 3) U
theorem ncX_al {u U : State} (h : u.vm.Alike U.vm) (n : ncX u) : ncX U := ⟨n.1.moved h, n.2.1.moved h, n.2.2.1.moved h, n.2.2.2.1.moved h, n.2.2.2.2.1.moved h, n.2.2.2.2.2.moved h⟩
def eH (A : Nat → Prop) (U : State) : Prop := eeC A U ∧ ncX U
section KH
variable {p : Program} {l : Launch} {e : Env} {R : Room} {s : State} {m : MethodId} {args : Array Value} {below : List Frame} {meth : Method} {c : Code} {H : Heap} {locs : List Loc} {cells slots : Nat} {Q : State → Prop}
variable {D : va_G} {cl : List vw_C} {A0 : Nat → Prop} {tys tyc : List (ClassId × FieldType)} {ws wc wr w1 ws' : va_W}
theorem kb_preH {NN' : State → Prop} (hw : kb_K D cl tys ws s A0 H locs) (isC isT : List Nat) (hCf : isC.filterMap (fun i => ws[i]?) = wc) (hC : isC.map (fun i => ws[i]?) = wc.map some) (hnd : va_nd isC = true) (hT : isT.filterMap (fun i => tys[i]?) = tyc) (hNu : ∀ U : State, U.heap = H → s.WarmedH U.vm → NN' U) {U : State} (hU : U.heap = H) (hW : s.WarmedH U.vm) : kb_pre D cl tyc wc NN' H.size U :=
  ⟨by rw [hU], by rw [hU]; exact hw.2.1.sub isC hCf, va_K.moved hW.alike (hw.1.sub isT hT), (hw.2.2.1.sub isC hnd hC).weaken (fun _ _ _ _ => trivial), hNu U hU hW⟩
theorem kb_blindH {NN' : State → Prop} (hNb : ∀ u U : State, u.vm = U.vm → u.heap = U.heap → NN' u → NN' U) (av : List Value) (sz : Nat) : FrameBlind (va_Pc av (kb_pre D cl tyc wc NN' sz)) := fun a U g mk q => by
  obtain ⟨q0, q1, qP, qK, qD, qN⟩ := q
  exact ⟨q0, q1, qP, va_K.moved (u := U) (U := U.calling g mk a) (Vm.Alike.refl U.vm) qK, qD, hNb U (U.calling g mk a) rfl rfl qN⟩
theorem kb_preVh {NN' : State → Prop} (hNb : ∀ u U : State, u.vm = U.vm → u.heap = U.heap → NN' u → NN' U) (hw : kb_K D cl tys ws s A0 H locs) (isC isT : List Nat) (hCf : isC.filterMap (fun i => ws[i]?) = wc) (hC : isC.map (fun i => ws[i]?) = wc.map some) (hnd : va_nd isC = true) (hT : isT.filterMap (fun i => tys[i]?) = tyc) (hNu : ∀ U : State, U.heap = H → s.WarmedH U.vm → NN' U)
    {b ci : Nat} {fs : List Value} {Cn : String} {T : u_T} {k : Nat} {As : List Value} (q0 : Nat) (he : wc[q0]? = some (b, .inr (ci, fs))) (hc : cl[ci]? = some (Cn, T, k)) : PreV s H Cn b (va_Pc (.ref b :: As) (kb_pre D cl tyc wc NN' H.size)) As :=
  ⟨kb_blindH hNb _ _, va_recv hw.1 (hw.2.1.sub isC hCf) hc he, fun U hU hW => ⟨rfl, kb_preH hw isC isT hCf hC hnd hT hNu hU hW⟩⟩
theorem kb_preSh {NN' : State → Prop} (hNb : ∀ u U : State, u.vm = U.vm → u.heap = U.heap → NN' u → NN' U) (hw : kb_K D cl tys ws s A0 H locs) (isC isT : List Nat) (hCf : isC.filterMap (fun i => ws[i]?) = wc) (hC : isC.map (fun i => ws[i]?) = wc.map some) (hnd : va_nd isC = true) (hT : isT.filterMap (fun i => tys[i]?) = tyc) (hNu : ∀ U : State, U.heap = H → s.WarmedH U.vm → NN' U) {As : List Value} : PreS s H (va_Pc As (kb_pre D cl tyc wc NN' H.size)) As :=
  ⟨kb_blindH hNb _ _, fun U hU hW => ⟨rfl, kb_preH hw isC isT hCf hC hnd hT hNu hU hW⟩⟩
end KH
theorem nnC_b (u U : State) (hv : u.vm = U.vm) (_ : u.heap = U.heap) (h : nnC u) : nnC U := nnC_same u U hv h
theorem eH_b {A : Nat → Prop} (u U : State) (hv : u.vm = U.vm) (hh : u.heap = U.heap) (h : eH A u) : eH A U := ⟨eeC_blind u U hv hh h.1, ncX_al (by rw [hv]; exact Vm.Alike.refl _) h.2⟩
set_option maxHeartbeats 4000000 in
set_option maxRecDepth 100000 in
theorem n_L_piles (l : Launch) (D : va_G) (o : Nat) (cO : ClassId) (f : Nat → Int64) (A : Nat → Nat) (G : Nat → ClassId) (x1 x2 : Int32) (M0 : Nat → Nat → Int32) (r : Int32) (M' : Nat → Nat → Int32) (sz : Nat) (h : f_P_piles x1 x2 M0 = some (r, M')) : Met l y_L_piles (Cond.codeWith y_L_piles method_3_code 4 (some .int) [(0, 6, 9, 13)] :: wsH) { frames := 2, cells := 0, slots := 0, locals := 45 } (va_Pc [.ref (A 0), .int x1, .int x2] (kb_pre D kcl (tyH cO G) (wH o cO f A G M0) nnC sz)) (va_Qi (fun r' (_ : Unit) => r' = 0) (fun _ t => kb_post D kcl (tyH cO G) (wH o cO f A G M0) (wH o cO f A G M') sz t) (va_A (wH o cO f A G M0) sz)) 0 0 (va_A (wH o cO f A G M0) sz) := by
  refine va_MetW (cc := b_L_piles) (maxL := 4) (ret := (some .int)) (hh := [(0, 6, 9, 13)]) (by decide) rfl ?_
  intro p e s m args below meth c s₁ B hml hv
  obtain ⟨rfl, hpre⟩ := hv
  obtain ⟨hw, hN⟩ := kb_enter hpre
  have hx := B.exec
  have hb := B.bytes
  have hr := B.returns
  have hts := atoms_spec (ws := (Cond.codeWith y_L_piles method_3_code 4 (some .int) [(0, 6, 9, 13)] :: wsH)) B.pre
  have hth : ∀ w ∈ wsH, w.before ([.ref (A 0), .int x1, .int x2] : List Value).toArray s = true := fun w h => hts w (List.mem_cons_of_mem _ h)
  have htl : ∀ w ∈ wsL, w.before ([.ref (A 0), .int x1, .int x2] : List Value).toArray s = true := fun w h => hth w (List.mem_append_left _ h)
  have htw : ∀ w ∈ wsC, w.before ([.ref (A 0), .int x1, .int x2] : List Value).toArray s = true := fun w h => hth w (List.mem_append_right _ (List.mem_append_left _ h))
  have hown : s.vm.findClass "PileLiftsLaw" = some m.cls := findClass_of_methodNamed B.named
  have hlocks := B.notSynchronized
  have hl := lv_entry ([.ref (A 0), .int x1, .int x2]) (n := 4) (Nat.le_of_ble_eq_true rfl)
  rw [lg_entry_eq]
  generalize (lg_sl ([.ref (A 0), .int x1, .int x2]) ++ List.replicate (4 - (lg_sl ([.ref (A 0), .int x1, .int x2])).length) Slot.unset).toArray = ls at hl ⊢
  have hl : lv_has ls 4 [(0, .ref (A 0)), (1, .int x1), (2, .int x2)] := hl
  refine lv_aload_n hx hb d_L_piles_0 rfl (lv_at hl 0 rfl) ?_
  refine lv_iload_n hx hb d_L_piles_1 rfl (lv_at hl 1 rfl) ?_
  refine lv_iload_n hx hb d_L_piles_2 rfl (lv_at hl 2 rfl) ?_
  refine kb_callv (wc := wC A G M0) (wr := [(o, .inl (cO, 1, .inr (.inl f)))]) (w1 := wC A G M') (ws' := (wH o cO f A G M')) (va_runV (As := [.int x1, .int x2]) (rest := []) ⟨hx, hb, hml, hown, hth⟩ (c_P_piles l D A G x1 x2 M0 _ _ s.heap.size h) ⟨callB_of 2 hth (wsH_C mC_105) rfl rfl rfl (htw _ mC_0) (htl _ mL_8) q_P_piles ⟨by show 1 + 1 ≤ 2; omega, by show 8 + (3 + 11) + 23 ≤ 45; omega⟩, htw _ mC_103, htw _ mC_104⟩ (kb_preVh nnC_b hw [1, 2, 3, 4, 5, 6, 7, 8, 9, 10, 11, 12, 13, 14, 15, 16, 17] [1, 2, 3, 4, 5, 6, 7, 8, 9, 10, 11, 12, 13] rfl rfl (by decide) rfl (fun U hU hW => nnC_warm s U hW hN) 0 (wC_0 A G _) rfl) rfl rfl hl.1 rfl (lv_room (Nat.le_of_ble_eq_true rfl)) d_L_piles_3 ⟨Nat.zero_le _, Nat.zero_le _⟩) hw [1, 2, 3, 4, 5, 6, 7, 8, 9, 10, 11, 12, 13, 14, 15, 16, 17] [0] rfl rfl (by decide) (by decide) rfl (fun H locs hw => ?_)
  refine W.cs (cells' := 0) (slots' := 0) rfl rfl ?_
  refine lv_goto (tgt := 12) hx hb d_L_piles_6 (by decide) ?_
  refine lv_iconst (v := 0) hx hb d_L_piles_12 (by decide) ?_
  exact kb_iret hx hb hr hw hlocks d_L_piles_13
set_option maxHeartbeats 4000000 in
set_option maxRecDepth 100000 in
theorem t0_L_piles (l : Launch) (hlt : l.stackTraces = false) (D : va_G) (o : Nat) (cO : ClassId) (f : Nat → Int64) (A : Nat → Nat) (G : Nat → ClassId) (x1 x2 : Int32) (M0 : Nat → Nat → Int32) (M' : Nat → Nat → Int32) (sz : Nat) (h : x_P_piles x1 x2 M0 = some (3, M')) : Met l y_L_piles (Cond.codeWith y_L_piles method_3_code 4 (some .int) [(0, 6, 9, 13)] :: wsH) { frames := 9, cells := 1, slots := 6, locals := 142 } (va_Pc [.ref (A 0), .int x1, .int x2] (kb_pre D kcl (tyH cO G) (wH o cO f A G M0) (eH (va_A (wH o cO f A G M0) sz)) sz)) (va_Qi (fun r' (_ : Unit) => r' = 1) (fun _ t => kb_post D kcl (tyH cO G) (wH o cO f A G M0) (wH o cO f A G M') sz t) (va_A (wH o cO f A G M0) sz)) 1 6 (va_A (wH o cO f A G M0) sz) := by
  refine va_MetW (cc := b_L_piles) (maxL := 4) (ret := (some .int)) (hh := [(0, 6, 9, 13)]) (by decide) rfl ?_
  intro p e s m args below meth c s₁ B hml hv
  obtain ⟨rfl, hpre⟩ := hv
  obtain ⟨hw, hN⟩ := kb_enter hpre
  have hx := B.exec
  have hb := B.bytes
  have hr := B.returns
  have hts := atoms_spec (ws := (Cond.codeWith y_L_piles method_3_code 4 (some .int) [(0, 6, 9, 13)] :: wsH)) B.pre
  have hth : ∀ w ∈ wsH, w.before ([.ref (A 0), .int x1, .int x2] : List Value).toArray s = true := fun w h => hts w (List.mem_cons_of_mem _ h)
  have htl : ∀ w ∈ wsL, w.before ([.ref (A 0), .int x1, .int x2] : List Value).toArray s = true := fun w h => hth w (List.mem_append_left _ h)
  have htw : ∀ w ∈ wsC, w.before ([.ref (A 0), .int x1, .int x2] : List Value).toArray s = true := fun w h => hth w (List.mem_append_right _ (List.mem_append_left _ h))
  have hown : s.vm.findClass "PileLiftsLaw" = some m.cls := findClass_of_methodNamed B.named
  have hlocks := B.notSynchronized
  have hl := lv_entry ([.ref (A 0), .int x1, .int x2]) (n := 4) (Nat.le_of_ble_eq_true rfl)
  rw [lg_entry_eq]
  generalize (lg_sl ([.ref (A 0), .int x1, .int x2]) ++ List.replicate (4 - (lg_sl ([.ref (A 0), .int x1, .int x2])).length) Slot.unset).toArray = ls at hl ⊢
  have hl : lv_has ls 4 [(0, .ref (A 0)), (1, .int x1), (2, .int x2)] := hl
  have htab := vx_table (x := y_L_piles) B (hts _ List.mem_cons_self)
  refine lv_aload_n hx hb d_L_piles_0 rfl (lv_at hl 0 rfl) ?_
  refine lv_iload_n hx hb d_L_piles_1 rfl (lv_at hl 1 rfl) ?_
  refine lv_iload_n hx hb d_L_piles_2 rfl (lv_at hl 2 rfl) ?_
  have hC : [1, 2, 3, 4, 5, 6, 7, 8, 9, 10, 11, 12, 13, 14, 15, 16, 17].map (fun i => (wH o cO f A G M0)[i]?) = (wC A G M0).map some := rfl
  have hF := va_free (wc := wC A G M0) hw.2.2.1 hw.2.2.2.1 hw.2.2.2.2 [1, 2, 3, 4, 5, 6, 7, 8, 9, 10, 11, 12, 13, 14, 15, 16, 17] hC
  refine vx_callv (vx_runV (As := [.int x1, .int x2]) (rest := []) ⟨hx, hb, hml, hown, hth⟩ (xc_P_piles l hlt D A G x1 x2 M0 _ _ s.heap.size h) ⟨callB_of 2 hth (wsH_X mC_105) rfl rfl rfl (htw _ mC_0) (htl _ mL_8) q_P_piles ⟨by show 8 + 1 ≤ 9; omega, by show 8 + (3 + 11) + 120 ≤ 142; omega⟩, htw _ mC_103, htw _ mC_104⟩ (kb_preVh (NN' := eeC (va_A (wC A G M0) s.heap.size)) eeC_blind hw [1, 2, 3, 4, 5, 6, 7, 8, 9, 10, 11, 12, 13, 14, 15, 16, 17] [1, 2, 3, 4, 5, 6, 7, 8, 9, 10, 11, 12, 13] rfl rfl (by decide) rfl (fun U hU hW => eeC_call hN.1 hW hU hw.2.2.2.1 hF) 0 (wC_0 A G _) rfl) rfl rfl hl.1 rfl (lv_room (Nat.le_of_ble_eq_true rfl)) d_L_piles_3 ⟨Nat.le_refl 1, Nat.le_refl 6⟩) hw.2.2.2.1 (fun q _ h => hF q h) hF (fun q _ h => hF q h) (fun E ce q9 u t H1 locs1 ht hvm hp hB hz hk hS hcell hv hcl => ?_) (fun u t H1 locs1 ht hvm hp => hp.elim)
  obtain ⟨rfl, hpost⟩ := hB
  have hw : kb_K D kcl (tyH cO G) (wH o cO f A G M') s (va_A (wH o cO f A G M0) sz) H1 locs1 := kb_behind (wr := [(o, .inl (cO, 1, .inr (.inl f)))]) (w1 := wC A G M') hw [1, 2, 3, 4, 5, 6, 7, 8, 9, 10, 11, 12, 13, 14, 15, 16, 17] [0] hC rfl (by decide) (by decide) rfl ht hpost hk hS
  refine vx_catch (name := kb_ex 3) hown [] ⟨0, 6, 9, 13⟩ [] htab (fun z hz => by cases hz) (by decide) (by decide) (htl _ mL_7) (va_Nw.use rfl (hN.1.2.1 _ (List.mem_of_getElem? (i := 5) rfl))) hcell hv hcl ?_
  refine lv_astore_n (lv' := [(3, .ref q9), (0, .ref (A 0)), (1, .int x1), (2, .int x2)]) hx hb d_L_piles_9 rfl hl (by decide) rfl (fun ls hl => ?_)
  refine lv_iconst (v := 1) hx hb d_L_piles_10 (by decide) ?_
  refine W.cs (cells' := 1) (slots' := 6) rfl rfl ?_
  exact kb_iret hx hb hr hw hlocks d_L_piles_11
set_option maxHeartbeats 4000000 in
set_option maxRecDepth 100000 in
theorem n_L_put (l : Launch) (D : va_G) (o : Nat) (cO : ClassId) (f : Nat → Int64) (A : Nat → Nat) (G : Nat → ClassId) (x1 x2 x3 : Int32) (M0 : Nat → Nat → Int32) (r : Int32) (M' : Nat → Nat → Int32) (sz : Nat) (h : f_P_put x1 x2 x3 M0 = some (r, M')) : Met l y_L_put (Cond.codeWith y_L_put method_4_code 6 (some .int) [(0, 12, 15, 19), (0, 12, 19, 13), (0, 12, 23, 21)] :: wsH) { frames := 4, cells := 0, slots := 0, locals := 89 } (va_Pc [.ref (A 0), .int x1, .int x2, .int x3, .ref o] (kb_pre D kcl (tyH cO G) (wH o cO f A G M0) nnC sz)) (va_Qi (fun r' (_ : Unit) => r' = 0) (fun _ t => kb_post D kcl (tyH cO G) (wH o cO f A G M0) (wH o cO (vp_updL f 0 r.toInt64) A G M') sz t) (va_A (wH o cO f A G M0) sz)) 0 0 (va_A (wH o cO f A G M0) sz) := by
  refine va_MetW (cc := b_L_put) (maxL := 6) (ret := (some .int)) (hh := [(0, 12, 15, 19), (0, 12, 19, 13), (0, 12, 23, 21)]) (by decide) rfl ?_
  intro p e s m args below meth c s₁ B hml hv
  obtain ⟨rfl, hpre⟩ := hv
  obtain ⟨hw, hN⟩ := kb_enter hpre
  have hx := B.exec
  have hb := B.bytes
  have hr := B.returns
  have hts := atoms_spec (ws := (Cond.codeWith y_L_put method_4_code 6 (some .int) [(0, 12, 15, 19), (0, 12, 19, 13), (0, 12, 23, 21)] :: wsH)) B.pre
  have hth : ∀ w ∈ wsH, w.before ([.ref (A 0), .int x1, .int x2, .int x3, .ref o] : List Value).toArray s = true := fun w h => hts w (List.mem_cons_of_mem _ h)
  have htl : ∀ w ∈ wsL, w.before ([.ref (A 0), .int x1, .int x2, .int x3, .ref o] : List Value).toArray s = true := fun w h => hth w (List.mem_append_left _ h)
  have htw : ∀ w ∈ wsC, w.before ([.ref (A 0), .int x1, .int x2, .int x3, .ref o] : List Value).toArray s = true := fun w h => hth w (List.mem_append_right _ (List.mem_append_left _ h))
  have hown : s.vm.findClass "PileLiftsLaw" = some m.cls := findClass_of_methodNamed B.named
  have hlocks := B.notSynchronized
  have hl := lv_entry ([.ref (A 0), .int x1, .int x2, .int x3, .ref o]) (n := 6) (Nat.le_of_ble_eq_true rfl)
  rw [lg_entry_eq]
  generalize (lg_sl ([.ref (A 0), .int x1, .int x2, .int x3, .ref o]) ++ List.replicate (6 - (lg_sl ([.ref (A 0), .int x1, .int x2, .int x3, .ref o])).length) Slot.unset).toArray = ls at hl ⊢
  have hl : lv_has ls 6 [(0, .ref (A 0)), (1, .int x1), (2, .int x2), (3, .int x3), (4, .ref o)] := hl
  refine lv_aload hx hb d_L_put_0 (lv_at hl 4 rfl) ?_
  refine lv_iconst (v := 0) hx hb d_L_put_2 (by decide) ?_
  refine lv_aload_n hx hb d_L_put_3 rfl (lv_at hl 0 rfl) ?_
  refine lv_iload_n hx hb d_L_put_4 rfl (lv_at hl 1 rfl) ?_
  refine lv_iload_n hx hb d_L_put_5 rfl (lv_at hl 2 rfl) ?_
  refine lv_iload_n hx hb d_L_put_6 rfl (lv_at hl 3 rfl) ?_
  refine kb_calli (wc := wC A G M0) (wr := [(o, .inl (cO, 1, .inr (.inl f)))]) (w1 := wC A G M') (ws' := (wH o cO f A G M')) (va_runV (As := [.int x1, .int x2, .int x3]) (rest := [.int 0, .ref o]) ⟨hx, hb, hml, hown, hth⟩ (c_P_put l D A G x1 x2 x3 M0 _ _ s.heap.size h) ⟨callB_of 3 hth (wsH_C mC_115) rfl rfl rfl (htw _ mC_0) (htl _ mL_14) q_P_put ⟨by show 3 + 1 ≤ 4; omega, by show 8 + (4 + 11) + 66 ≤ 89; omega⟩, htw _ mC_113, htw _ mC_114⟩ (kb_preVh nnC_b hw [1, 2, 3, 4, 5, 6, 7, 8, 9, 10, 11, 12, 13, 14, 15, 16, 17] [1, 2, 3, 4, 5, 6, 7, 8, 9, 10, 11, 12, 13] rfl rfl (by decide) rfl (fun U hU hW => nnC_warm s U hW hN) 0 (wC_0 A G _) rfl) rfl rfl hl.1 rfl (lv_room (Nat.le_of_ble_eq_true rfl)) d_L_put_7 ⟨Nat.zero_le _, Nat.zero_le _⟩) hw [1, 2, 3, 4, 5, 6, 7, 8, 9, 10, 11, 12, 13, 14, 15, 16, 17] [0] rfl rfl (by decide) (by decide) rfl (fun H locs hw => ?_)
  refine W.cs (cells' := 0) (slots' := 0) rfl rfl ?_
  refine lv_i2l (v := r.toInt64) hx hb d_L_put_10 rfl ?_
  refine va_last hx hb hw.1 hw.2.1 hw.2.2.1 hw.2.2.2.1 0 0 rfl rfl (show ¬ ((0 : Int32) < 0 ∨ 1 ≤ (0 : Int32).toNatClampNeg) by decide) d_L_put_11 (fun H locs hP hD hS => ?_)
  have hw : kb_K D kcl (tyH cO G) (wH o cO (vp_updL f 0 r.toInt64) A G M') s (va_A (wH o cO f A G M0) sz) H locs := ⟨hw.1, hP, hD, hS, hw.2.2.2.2⟩
  refine lv_goto (tgt := 27) hx hb d_L_put_12 (by decide) ?_
  refine lv_iconst (v := 0) hx hb d_L_put_27 (by decide) ?_
  exact kb_iret hx hb hr hw hlocks d_L_put_28
set_option maxHeartbeats 4000000 in
set_option maxRecDepth 100000 in
theorem t0_L_put (l : Launch) (hlt : l.stackTraces = false) (D : va_G) (o : Nat) (cO : ClassId) (f : Nat → Int64) (A : Nat → Nat) (G : Nat → ClassId) (x1 x2 x3 : Int32) (M0 : Nat → Nat → Int32) (M' : Nat → Nat → Int32) (sz : Nat) (h : x_P_put x1 x2 x3 M0 = some (1, M')) : Met l y_L_put (Cond.codeWith y_L_put method_4_code 6 (some .int) [(0, 12, 15, 19), (0, 12, 19, 13), (0, 12, 23, 21)] :: wsH) { frames := 9, cells := 1, slots := 6, locals := 143 } (va_Pc [.ref (A 0), .int x1, .int x2, .int x3, .ref o] (kb_pre D kcl (tyH cO G) (wH o cO f A G M0) (eH (va_A (wH o cO f A G M0) sz)) sz)) (va_Qi (fun r' (_ : Unit) => r' = 1) (fun _ t => kb_post D kcl (tyH cO G) (wH o cO f A G M0) (wH o cO f A G M') sz t) (va_A (wH o cO f A G M0) sz)) 1 6 (va_A (wH o cO f A G M0) sz) := by
  refine va_MetW (cc := b_L_put) (maxL := 6) (ret := (some .int)) (hh := [(0, 12, 15, 19), (0, 12, 19, 13), (0, 12, 23, 21)]) (by decide) rfl ?_
  intro p e s m args below meth c s₁ B hml hv
  obtain ⟨rfl, hpre⟩ := hv
  obtain ⟨hw, hN⟩ := kb_enter hpre
  have hx := B.exec
  have hb := B.bytes
  have hr := B.returns
  have hts := atoms_spec (ws := (Cond.codeWith y_L_put method_4_code 6 (some .int) [(0, 12, 15, 19), (0, 12, 19, 13), (0, 12, 23, 21)] :: wsH)) B.pre
  have hth : ∀ w ∈ wsH, w.before ([.ref (A 0), .int x1, .int x2, .int x3, .ref o] : List Value).toArray s = true := fun w h => hts w (List.mem_cons_of_mem _ h)
  have htl : ∀ w ∈ wsL, w.before ([.ref (A 0), .int x1, .int x2, .int x3, .ref o] : List Value).toArray s = true := fun w h => hth w (List.mem_append_left _ h)
  have htw : ∀ w ∈ wsC, w.before ([.ref (A 0), .int x1, .int x2, .int x3, .ref o] : List Value).toArray s = true := fun w h => hth w (List.mem_append_right _ (List.mem_append_left _ h))
  have hown : s.vm.findClass "PileLiftsLaw" = some m.cls := findClass_of_methodNamed B.named
  have hlocks := B.notSynchronized
  have hl := lv_entry ([.ref (A 0), .int x1, .int x2, .int x3, .ref o]) (n := 6) (Nat.le_of_ble_eq_true rfl)
  rw [lg_entry_eq]
  generalize (lg_sl ([.ref (A 0), .int x1, .int x2, .int x3, .ref o]) ++ List.replicate (6 - (lg_sl ([.ref (A 0), .int x1, .int x2, .int x3, .ref o])).length) Slot.unset).toArray = ls at hl ⊢
  have hl : lv_has ls 6 [(0, .ref (A 0)), (1, .int x1), (2, .int x2), (3, .int x3), (4, .ref o)] := hl
  have htab := vx_table (x := y_L_put) B (hts _ List.mem_cons_self)
  refine lv_aload hx hb d_L_put_0 (lv_at hl 4 rfl) ?_
  refine lv_iconst (v := 0) hx hb d_L_put_2 (by decide) ?_
  refine lv_aload_n hx hb d_L_put_3 rfl (lv_at hl 0 rfl) ?_
  refine lv_iload_n hx hb d_L_put_4 rfl (lv_at hl 1 rfl) ?_
  refine lv_iload_n hx hb d_L_put_5 rfl (lv_at hl 2 rfl) ?_
  refine lv_iload_n hx hb d_L_put_6 rfl (lv_at hl 3 rfl) ?_
  have hC : [1, 2, 3, 4, 5, 6, 7, 8, 9, 10, 11, 12, 13, 14, 15, 16, 17].map (fun i => (wH o cO f A G M0)[i]?) = (wC A G M0).map some := rfl
  have hF := va_free (wc := wC A G M0) hw.2.2.1 hw.2.2.2.1 hw.2.2.2.2 [1, 2, 3, 4, 5, 6, 7, 8, 9, 10, 11, 12, 13, 14, 15, 16, 17] hC
  refine vx_calli (vx_runV (As := [.int x1, .int x2, .int x3]) (rest := [.int 0, .ref o]) ⟨hx, hb, hml, hown, hth⟩ (xc_P_put l hlt D A G x1 x2 x3 M0 _ _ s.heap.size h) ⟨callB_of 3 hth (wsH_X mC_115) rfl rfl rfl (htw _ mC_0) (htl _ mL_14) q_P_put ⟨by show 8 + 1 ≤ 9; omega, by show 8 + (4 + 11) + 120 ≤ 143; omega⟩, htw _ mC_113, htw _ mC_114⟩ (kb_preVh (NN' := eeC (va_A (wC A G M0) s.heap.size)) eeC_blind hw [1, 2, 3, 4, 5, 6, 7, 8, 9, 10, 11, 12, 13, 14, 15, 16, 17] [1, 2, 3, 4, 5, 6, 7, 8, 9, 10, 11, 12, 13] rfl rfl (by decide) rfl (fun U hU hW => eeC_call hN.1 hW hU hw.2.2.2.1 hF) 0 (wC_0 A G _) rfl) rfl rfl hl.1 rfl (lv_room (Nat.le_of_ble_eq_true rfl)) d_L_put_7 ⟨Nat.le_refl 1, Nat.le_refl 6⟩) hw.2.2.2.1 (fun q _ h => hF q h) hF (fun q _ h => hF q h) (fun E ce q9 u t H1 locs1 ht hvm hp hB hz hk hS hcell hv hcl => ?_) (fun r9 u t H1 locs1 ht hvm hp => hp.elim)
  obtain ⟨rfl, hpost⟩ := hB
  have hw : kb_K D kcl (tyH cO G) (wH o cO f A G M') s (va_A (wH o cO f A G M0) sz) H1 locs1 := kb_behind (wr := [(o, .inl (cO, 1, .inr (.inl f)))]) (w1 := wC A G M') hw [1, 2, 3, 4, 5, 6, 7, 8, 9, 10, 11, 12, 13, 14, 15, 16, 17] [0] hC rfl (by decide) (by decide) rfl ht hpost hk hS
  refine vx_catch (name := kb_ex 1) hown [] ⟨0, 12, 15, 19⟩ [⟨0, 12, 19, 13⟩, ⟨0, 12, 23, 21⟩] htab (fun z hz => by cases hz) (by decide) (by decide) (htl _ mL_12) (va_Nw.use rfl (hN.1.2.1 _ (List.mem_of_getElem? (i := 3) rfl))) hcell hv hcl ?_
  refine lv_astore (lv' := [(5, .ref q9), (0, .ref (A 0)), (1, .int x1), (2, .int x2), (3, .int x3), (4, .ref o)]) hx hb d_L_put_15 hl (by decide) rfl (fun ls hl => ?_)
  refine lv_iconst (v := 1) hx hb d_L_put_17 (by decide) ?_
  refine W.cs (cells' := 1) (slots' := 6) rfl rfl ?_
  exact kb_iret hx hb hr hw hlocks d_L_put_18
set_option maxHeartbeats 4000000 in
set_option maxRecDepth 100000 in
theorem t1_L_put (l : Launch) (hlt : l.stackTraces = false) (D : va_G) (o : Nat) (cO : ClassId) (f : Nat → Int64) (A : Nat → Nat) (G : Nat → ClassId) (x1 x2 x3 : Int32) (M0 : Nat → Nat → Int32) (M' : Nat → Nat → Int32) (sz : Nat) (h : x_P_put x1 x2 x3 M0 = some (3, M')) : Met l y_L_put (Cond.codeWith y_L_put method_4_code 6 (some .int) [(0, 12, 15, 19), (0, 12, 19, 13), (0, 12, 23, 21)] :: wsH) { frames := 9, cells := 1, slots := 6, locals := 143 } (va_Pc [.ref (A 0), .int x1, .int x2, .int x3, .ref o] (kb_pre D kcl (tyH cO G) (wH o cO f A G M0) (eH (va_A (wH o cO f A G M0) sz)) sz)) (va_Qi (fun r' (_ : Unit) => r' = 2) (fun _ t => kb_post D kcl (tyH cO G) (wH o cO f A G M0) (wH o cO f A G M') sz t) (va_A (wH o cO f A G M0) sz)) 1 6 (va_A (wH o cO f A G M0) sz) := by
  refine va_MetW (cc := b_L_put) (maxL := 6) (ret := (some .int)) (hh := [(0, 12, 15, 19), (0, 12, 19, 13), (0, 12, 23, 21)]) (by decide) rfl ?_
  intro p e s m args below meth c s₁ B hml hv
  obtain ⟨rfl, hpre⟩ := hv
  obtain ⟨hw, hN⟩ := kb_enter hpre
  have hx := B.exec
  have hb := B.bytes
  have hr := B.returns
  have hts := atoms_spec (ws := (Cond.codeWith y_L_put method_4_code 6 (some .int) [(0, 12, 15, 19), (0, 12, 19, 13), (0, 12, 23, 21)] :: wsH)) B.pre
  have hth : ∀ w ∈ wsH, w.before ([.ref (A 0), .int x1, .int x2, .int x3, .ref o] : List Value).toArray s = true := fun w h => hts w (List.mem_cons_of_mem _ h)
  have htl : ∀ w ∈ wsL, w.before ([.ref (A 0), .int x1, .int x2, .int x3, .ref o] : List Value).toArray s = true := fun w h => hth w (List.mem_append_left _ h)
  have htw : ∀ w ∈ wsC, w.before ([.ref (A 0), .int x1, .int x2, .int x3, .ref o] : List Value).toArray s = true := fun w h => hth w (List.mem_append_right _ (List.mem_append_left _ h))
  have hown : s.vm.findClass "PileLiftsLaw" = some m.cls := findClass_of_methodNamed B.named
  have hlocks := B.notSynchronized
  have hl := lv_entry ([.ref (A 0), .int x1, .int x2, .int x3, .ref o]) (n := 6) (Nat.le_of_ble_eq_true rfl)
  rw [lg_entry_eq]
  generalize (lg_sl ([.ref (A 0), .int x1, .int x2, .int x3, .ref o]) ++ List.replicate (6 - (lg_sl ([.ref (A 0), .int x1, .int x2, .int x3, .ref o])).length) Slot.unset).toArray = ls at hl ⊢
  have hl : lv_has ls 6 [(0, .ref (A 0)), (1, .int x1), (2, .int x2), (3, .int x3), (4, .ref o)] := hl
  have htab := vx_table (x := y_L_put) B (hts _ List.mem_cons_self)
  refine lv_aload hx hb d_L_put_0 (lv_at hl 4 rfl) ?_
  refine lv_iconst (v := 0) hx hb d_L_put_2 (by decide) ?_
  refine lv_aload_n hx hb d_L_put_3 rfl (lv_at hl 0 rfl) ?_
  refine lv_iload_n hx hb d_L_put_4 rfl (lv_at hl 1 rfl) ?_
  refine lv_iload_n hx hb d_L_put_5 rfl (lv_at hl 2 rfl) ?_
  refine lv_iload_n hx hb d_L_put_6 rfl (lv_at hl 3 rfl) ?_
  have hC : [1, 2, 3, 4, 5, 6, 7, 8, 9, 10, 11, 12, 13, 14, 15, 16, 17].map (fun i => (wH o cO f A G M0)[i]?) = (wC A G M0).map some := rfl
  have hF := va_free (wc := wC A G M0) hw.2.2.1 hw.2.2.2.1 hw.2.2.2.2 [1, 2, 3, 4, 5, 6, 7, 8, 9, 10, 11, 12, 13, 14, 15, 16, 17] hC
  refine vx_calli (vx_runV (As := [.int x1, .int x2, .int x3]) (rest := [.int 0, .ref o]) ⟨hx, hb, hml, hown, hth⟩ (xc_P_put l hlt D A G x1 x2 x3 M0 _ _ s.heap.size h) ⟨callB_of 3 hth (wsH_X mC_115) rfl rfl rfl (htw _ mC_0) (htl _ mL_14) q_P_put ⟨by show 8 + 1 ≤ 9; omega, by show 8 + (4 + 11) + 120 ≤ 143; omega⟩, htw _ mC_113, htw _ mC_114⟩ (kb_preVh (NN' := eeC (va_A (wC A G M0) s.heap.size)) eeC_blind hw [1, 2, 3, 4, 5, 6, 7, 8, 9, 10, 11, 12, 13, 14, 15, 16, 17] [1, 2, 3, 4, 5, 6, 7, 8, 9, 10, 11, 12, 13] rfl rfl (by decide) rfl (fun U hU hW => eeC_call hN.1 hW hU hw.2.2.2.1 hF) 0 (wC_0 A G _) rfl) rfl rfl hl.1 rfl (lv_room (Nat.le_of_ble_eq_true rfl)) d_L_put_7 ⟨Nat.le_refl 1, Nat.le_refl 6⟩) hw.2.2.2.1 (fun q _ h => hF q h) hF (fun q _ h => hF q h) (fun E ce q9 u t H1 locs1 ht hvm hp hB hz hk hS hcell hv hcl => ?_) (fun r9 u t H1 locs1 ht hvm hp => hp.elim)
  obtain ⟨rfl, hpost⟩ := hB
  have hw : kb_K D kcl (tyH cO G) (wH o cO f A G M') s (va_A (wH o cO f A G M0) sz) H1 locs1 := kb_behind (wr := [(o, .inl (cO, 1, .inr (.inl f)))]) (w1 := wC A G M') hw [1, 2, 3, 4, 5, 6, 7, 8, 9, 10, 11, 12, 13, 14, 15, 16, 17] [0] hC rfl (by decide) (by decide) rfl ht hpost hk hS
  refine vx_catch (name := kb_ex 3) hown [⟨0, 12, 15, 19⟩] ⟨0, 12, 19, 13⟩ [⟨0, 12, 23, 21⟩] htab (fun z hz => by
    rcases List.mem_singleton.mp hz with rfl
    · exact Or.inr ⟨by decide, _, htl _ mL_12, hN.2.2.1⟩) (by decide) (by decide) (htl _ mL_7) (va_Nw.use rfl (hN.1.2.1 _ (List.mem_of_getElem? (i := 5) rfl))) hcell hv hcl ?_
  refine lv_astore (lv' := [(5, .ref q9), (0, .ref (A 0)), (1, .int x1), (2, .int x2), (3, .int x3), (4, .ref o)]) hx hb d_L_put_19 hl (by decide) rfl (fun ls hl => ?_)
  refine lv_iconst (v := 2) hx hb d_L_put_21 (by decide) ?_
  refine W.cs (cells' := 1) (slots' := 6) rfl rfl ?_
  exact kb_iret hx hb hr hw hlocks d_L_put_22
set_option maxHeartbeats 4000000 in
set_option maxRecDepth 100000 in
theorem t2_L_put (l : Launch) (hlt : l.stackTraces = false) (D : va_G) (o : Nat) (cO : ClassId) (f : Nat → Int64) (A : Nat → Nat) (G : Nat → ClassId) (x1 x2 x3 : Int32) (M0 : Nat → Nat → Int32) (M' : Nat → Nat → Int32) (sz : Nat) (h : x_P_put x1 x2 x3 M0 = some (4, M')) : Met l y_L_put (Cond.codeWith y_L_put method_4_code 6 (some .int) [(0, 12, 15, 19), (0, 12, 19, 13), (0, 12, 23, 21)] :: wsH) { frames := 9, cells := 1, slots := 6, locals := 143 } (va_Pc [.ref (A 0), .int x1, .int x2, .int x3, .ref o] (kb_pre D kcl (tyH cO G) (wH o cO f A G M0) (eH (va_A (wH o cO f A G M0) sz)) sz)) (va_Qi (fun r' (_ : Unit) => r' = 3) (fun _ t => kb_post D kcl (tyH cO G) (wH o cO f A G M0) (wH o cO f A G M') sz t) (va_A (wH o cO f A G M0) sz)) 1 6 (va_A (wH o cO f A G M0) sz) := by
  refine va_MetW (cc := b_L_put) (maxL := 6) (ret := (some .int)) (hh := [(0, 12, 15, 19), (0, 12, 19, 13), (0, 12, 23, 21)]) (by decide) rfl ?_
  intro p e s m args below meth c s₁ B hml hv
  obtain ⟨rfl, hpre⟩ := hv
  obtain ⟨hw, hN⟩ := kb_enter hpre
  have hx := B.exec
  have hb := B.bytes
  have hr := B.returns
  have hts := atoms_spec (ws := (Cond.codeWith y_L_put method_4_code 6 (some .int) [(0, 12, 15, 19), (0, 12, 19, 13), (0, 12, 23, 21)] :: wsH)) B.pre
  have hth : ∀ w ∈ wsH, w.before ([.ref (A 0), .int x1, .int x2, .int x3, .ref o] : List Value).toArray s = true := fun w h => hts w (List.mem_cons_of_mem _ h)
  have htl : ∀ w ∈ wsL, w.before ([.ref (A 0), .int x1, .int x2, .int x3, .ref o] : List Value).toArray s = true := fun w h => hth w (List.mem_append_left _ h)
  have htw : ∀ w ∈ wsC, w.before ([.ref (A 0), .int x1, .int x2, .int x3, .ref o] : List Value).toArray s = true := fun w h => hth w (List.mem_append_right _ (List.mem_append_left _ h))
  have hown : s.vm.findClass "PileLiftsLaw" = some m.cls := findClass_of_methodNamed B.named
  have hlocks := B.notSynchronized
  have hl := lv_entry ([.ref (A 0), .int x1, .int x2, .int x3, .ref o]) (n := 6) (Nat.le_of_ble_eq_true rfl)
  rw [lg_entry_eq]
  generalize (lg_sl ([.ref (A 0), .int x1, .int x2, .int x3, .ref o]) ++ List.replicate (6 - (lg_sl ([.ref (A 0), .int x1, .int x2, .int x3, .ref o])).length) Slot.unset).toArray = ls at hl ⊢
  have hl : lv_has ls 6 [(0, .ref (A 0)), (1, .int x1), (2, .int x2), (3, .int x3), (4, .ref o)] := hl
  have htab := vx_table (x := y_L_put) B (hts _ List.mem_cons_self)
  refine lv_aload hx hb d_L_put_0 (lv_at hl 4 rfl) ?_
  refine lv_iconst (v := 0) hx hb d_L_put_2 (by decide) ?_
  refine lv_aload_n hx hb d_L_put_3 rfl (lv_at hl 0 rfl) ?_
  refine lv_iload_n hx hb d_L_put_4 rfl (lv_at hl 1 rfl) ?_
  refine lv_iload_n hx hb d_L_put_5 rfl (lv_at hl 2 rfl) ?_
  refine lv_iload_n hx hb d_L_put_6 rfl (lv_at hl 3 rfl) ?_
  have hC : [1, 2, 3, 4, 5, 6, 7, 8, 9, 10, 11, 12, 13, 14, 15, 16, 17].map (fun i => (wH o cO f A G M0)[i]?) = (wC A G M0).map some := rfl
  have hF := va_free (wc := wC A G M0) hw.2.2.1 hw.2.2.2.1 hw.2.2.2.2 [1, 2, 3, 4, 5, 6, 7, 8, 9, 10, 11, 12, 13, 14, 15, 16, 17] hC
  refine vx_calli (vx_runV (As := [.int x1, .int x2, .int x3]) (rest := [.int 0, .ref o]) ⟨hx, hb, hml, hown, hth⟩ (xc_P_put l hlt D A G x1 x2 x3 M0 _ _ s.heap.size h) ⟨callB_of 3 hth (wsH_X mC_115) rfl rfl rfl (htw _ mC_0) (htl _ mL_14) q_P_put ⟨by show 8 + 1 ≤ 9; omega, by show 8 + (4 + 11) + 120 ≤ 143; omega⟩, htw _ mC_113, htw _ mC_114⟩ (kb_preVh (NN' := eeC (va_A (wC A G M0) s.heap.size)) eeC_blind hw [1, 2, 3, 4, 5, 6, 7, 8, 9, 10, 11, 12, 13, 14, 15, 16, 17] [1, 2, 3, 4, 5, 6, 7, 8, 9, 10, 11, 12, 13] rfl rfl (by decide) rfl (fun U hU hW => eeC_call hN.1 hW hU hw.2.2.2.1 hF) 0 (wC_0 A G _) rfl) rfl rfl hl.1 rfl (lv_room (Nat.le_of_ble_eq_true rfl)) d_L_put_7 ⟨Nat.le_refl 1, Nat.le_refl 6⟩) hw.2.2.2.1 (fun q _ h => hF q h) hF (fun q _ h => hF q h) (fun E ce q9 u t H1 locs1 ht hvm hp hB hz hk hS hcell hv hcl => ?_) (fun r9 u t H1 locs1 ht hvm hp => hp.elim)
  obtain ⟨rfl, hpost⟩ := hB
  have hw : kb_K D kcl (tyH cO G) (wH o cO f A G M') s (va_A (wH o cO f A G M0) sz) H1 locs1 := kb_behind (wr := [(o, .inl (cO, 1, .inr (.inl f)))]) (w1 := wC A G M') hw [1, 2, 3, 4, 5, 6, 7, 8, 9, 10, 11, 12, 13, 14, 15, 16, 17] [0] hC rfl (by decide) (by decide) rfl ht hpost hk hS
  refine vx_catch (name := kb_ex 4) hown [⟨0, 12, 15, 19⟩, ⟨0, 12, 19, 13⟩] ⟨0, 12, 23, 21⟩ [] htab (fun z hz => by
    rcases (by simpa using hz : z = ⟨0, 12, 15, 19⟩ ∨ z = ⟨0, 12, 19, 13⟩) with rfl | rfl
    · exact Or.inr ⟨by decide, _, htl _ mL_12, hN.2.2.2.2.1⟩
    · exact Or.inr ⟨by decide, _, htl _ mL_7, hN.2.2.2.2.2.2⟩) (by decide) (by decide) (htl _ mL_13) (va_Nw.use rfl (hN.1.2.1 _ (List.mem_of_getElem? (i := 6) rfl))) hcell hv hcl ?_
  refine lv_astore (lv' := [(5, .ref q9), (0, .ref (A 0)), (1, .int x1), (2, .int x2), (3, .int x3), (4, .ref o)]) hx hb d_L_put_23 hl (by decide) rfl (fun ls hl => ?_)
  refine lv_iconst (v := 3) hx hb d_L_put_25 (by decide) ?_
  refine W.cs (cells' := 1) (slots' := 6) rfl rfl ?_
  exact kb_iret hx hb hr hw hlocks d_L_put_26
set_option maxHeartbeats 4000000 in
set_option maxRecDepth 100000 in
theorem n_L_want (l : Launch) (D : va_G) (o : Nat) (cO : ClassId) (f : Nat → Int64) (A : Nat → Nat) (G : Nat → ClassId) (x1 x2 : Int32) (M0 : Nat → Nat → Int32) (r : Int32) (M' : Nat → Nat → Int32) (sz : Nat) (h : f_P_want x1 x2 M0 = some (r, M')) : Met l y_L_want (Cond.codeWith y_L_want method_5_code 4 (some .int) [(0, 6, 9, 19), (0, 6, 12, 26), (0, 6, 15, 13)] :: wsH) { frames := 4, cells := 0, slots := 0, locals := 86 } (va_Pc [.ref (A 0), .int x1, .int x2] (kb_pre D kcl (tyH cO G) (wH o cO f A G M0) nnC sz)) (va_Qi (fun r' (_ : Unit) => r' = 0) (fun _ t => kb_post D kcl (tyH cO G) (wH o cO f A G M0) (wH o cO f A G M') sz t) (va_A (wH o cO f A G M0) sz)) 0 0 (va_A (wH o cO f A G M0) sz) := by
  refine va_MetW (cc := b_L_want) (maxL := 4) (ret := (some .int)) (hh := [(0, 6, 9, 19), (0, 6, 12, 26), (0, 6, 15, 13)]) (by decide) rfl ?_
  intro p e s m args below meth c s₁ B hml hv
  obtain ⟨rfl, hpre⟩ := hv
  obtain ⟨hw, hN⟩ := kb_enter hpre
  have hx := B.exec
  have hb := B.bytes
  have hr := B.returns
  have hts := atoms_spec (ws := (Cond.codeWith y_L_want method_5_code 4 (some .int) [(0, 6, 9, 19), (0, 6, 12, 26), (0, 6, 15, 13)] :: wsH)) B.pre
  have hth : ∀ w ∈ wsH, w.before ([.ref (A 0), .int x1, .int x2] : List Value).toArray s = true := fun w h => hts w (List.mem_cons_of_mem _ h)
  have htl : ∀ w ∈ wsL, w.before ([.ref (A 0), .int x1, .int x2] : List Value).toArray s = true := fun w h => hth w (List.mem_append_left _ h)
  have htw : ∀ w ∈ wsC, w.before ([.ref (A 0), .int x1, .int x2] : List Value).toArray s = true := fun w h => hth w (List.mem_append_right _ (List.mem_append_left _ h))
  have hown : s.vm.findClass "PileLiftsLaw" = some m.cls := findClass_of_methodNamed B.named
  have hlocks := B.notSynchronized
  have hl := lv_entry ([.ref (A 0), .int x1, .int x2]) (n := 4) (Nat.le_of_ble_eq_true rfl)
  rw [lg_entry_eq]
  generalize (lg_sl ([.ref (A 0), .int x1, .int x2]) ++ List.replicate (4 - (lg_sl ([.ref (A 0), .int x1, .int x2])).length) Slot.unset).toArray = ls at hl ⊢
  have hl : lv_has ls 4 [(0, .ref (A 0)), (1, .int x1), (2, .int x2)] := hl
  refine lv_aload_n hx hb d_L_want_0 rfl (lv_at hl 0 rfl) ?_
  refine lv_iload_n hx hb d_L_want_1 rfl (lv_at hl 1 rfl) ?_
  refine lv_iload_n hx hb d_L_want_2 rfl (lv_at hl 2 rfl) ?_
  refine kb_callv (wc := wC A G M0) (wr := [(o, .inl (cO, 1, .inr (.inl f)))]) (w1 := wC A G M') (ws' := (wH o cO f A G M')) (va_runV (As := [.int x1, .int x2]) (rest := []) ⟨hx, hb, hml, hown, hth⟩ (c_P_want l D A G x1 x2 M0 _ _ s.heap.size h) ⟨callB_of 2 hth (wsH_C mC_134) rfl rfl rfl (htw _ mC_0) (htl _ mL_19) q_P_want ⟨by show 3 + 1 ≤ 4; omega, by show 8 + (3 + 11) + 64 ≤ 86; omega⟩, htw _ mC_132, htw _ mC_133⟩ (kb_preVh nnC_b hw [1, 2, 3, 4, 5, 6, 7, 8, 9, 10, 11, 12, 13, 14, 15, 16, 17] [1, 2, 3, 4, 5, 6, 7, 8, 9, 10, 11, 12, 13] rfl rfl (by decide) rfl (fun U hU hW => nnC_warm s U hW hN) 0 (wC_0 A G _) rfl) rfl rfl hl.1 rfl (lv_room (Nat.le_of_ble_eq_true rfl)) d_L_want_3 ⟨Nat.zero_le _, Nat.zero_le _⟩) hw [1, 2, 3, 4, 5, 6, 7, 8, 9, 10, 11, 12, 13, 14, 15, 16, 17] [0] rfl rfl (by decide) (by decide) rfl (fun H locs hw => ?_)
  refine W.cs (cells' := 0) (slots' := 0) rfl rfl ?_
  refine lv_goto (tgt := 18) hx hb d_L_want_6 (by decide) ?_
  refine lv_iconst (v := 0) hx hb d_L_want_18 (by decide) ?_
  exact kb_iret hx hb hr hw hlocks d_L_want_19
set_option maxHeartbeats 4000000 in
set_option maxRecDepth 100000 in
theorem t0_L_want (l : Launch) (hlt : l.stackTraces = false) (D : va_G) (o : Nat) (cO : ClassId) (f : Nat → Int64) (A : Nat → Nat) (G : Nat → ClassId) (x1 x2 : Int32) (M0 : Nat → Nat → Int32) (M' : Nat → Nat → Int32) (sz : Nat) (h : x_P_want x1 x2 M0 = some (1, M')) : Met l y_L_want (Cond.codeWith y_L_want method_5_code 4 (some .int) [(0, 6, 9, 19), (0, 6, 12, 26), (0, 6, 15, 13)] :: wsH) { frames := 10, cells := 1, slots := 6, locals := 163 } (va_Pc [.ref (A 0), .int x1, .int x2] (kb_pre D kcl (tyH cO G) (wH o cO f A G M0) (eH (va_A (wH o cO f A G M0) sz)) sz)) (va_Qi (fun r' (_ : Unit) => r' = 1) (fun _ t => kb_post D kcl (tyH cO G) (wH o cO f A G M0) (wH o cO f A G M') sz t) (va_A (wH o cO f A G M0) sz)) 1 6 (va_A (wH o cO f A G M0) sz) := by
  refine va_MetW (cc := b_L_want) (maxL := 4) (ret := (some .int)) (hh := [(0, 6, 9, 19), (0, 6, 12, 26), (0, 6, 15, 13)]) (by decide) rfl ?_
  intro p e s m args below meth c s₁ B hml hv
  obtain ⟨rfl, hpre⟩ := hv
  obtain ⟨hw, hN⟩ := kb_enter hpre
  have hx := B.exec
  have hb := B.bytes
  have hr := B.returns
  have hts := atoms_spec (ws := (Cond.codeWith y_L_want method_5_code 4 (some .int) [(0, 6, 9, 19), (0, 6, 12, 26), (0, 6, 15, 13)] :: wsH)) B.pre
  have hth : ∀ w ∈ wsH, w.before ([.ref (A 0), .int x1, .int x2] : List Value).toArray s = true := fun w h => hts w (List.mem_cons_of_mem _ h)
  have htl : ∀ w ∈ wsL, w.before ([.ref (A 0), .int x1, .int x2] : List Value).toArray s = true := fun w h => hth w (List.mem_append_left _ h)
  have htw : ∀ w ∈ wsC, w.before ([.ref (A 0), .int x1, .int x2] : List Value).toArray s = true := fun w h => hth w (List.mem_append_right _ (List.mem_append_left _ h))
  have hown : s.vm.findClass "PileLiftsLaw" = some m.cls := findClass_of_methodNamed B.named
  have hlocks := B.notSynchronized
  have hl := lv_entry ([.ref (A 0), .int x1, .int x2]) (n := 4) (Nat.le_of_ble_eq_true rfl)
  rw [lg_entry_eq]
  generalize (lg_sl ([.ref (A 0), .int x1, .int x2]) ++ List.replicate (4 - (lg_sl ([.ref (A 0), .int x1, .int x2])).length) Slot.unset).toArray = ls at hl ⊢
  have hl : lv_has ls 4 [(0, .ref (A 0)), (1, .int x1), (2, .int x2)] := hl
  have htab := vx_table (x := y_L_want) B (hts _ List.mem_cons_self)
  refine lv_aload_n hx hb d_L_want_0 rfl (lv_at hl 0 rfl) ?_
  refine lv_iload_n hx hb d_L_want_1 rfl (lv_at hl 1 rfl) ?_
  refine lv_iload_n hx hb d_L_want_2 rfl (lv_at hl 2 rfl) ?_
  have hC : [1, 2, 3, 4, 5, 6, 7, 8, 9, 10, 11, 12, 13, 14, 15, 16, 17].map (fun i => (wH o cO f A G M0)[i]?) = (wC A G M0).map some := rfl
  have hF := va_free (wc := wC A G M0) hw.2.2.1 hw.2.2.2.1 hw.2.2.2.2 [1, 2, 3, 4, 5, 6, 7, 8, 9, 10, 11, 12, 13, 14, 15, 16, 17] hC
  refine vx_callv (vx_runV (As := [.int x1, .int x2]) (rest := []) ⟨hx, hb, hml, hown, hth⟩ (xc_P_want l hlt D A G x1 x2 M0 _ _ s.heap.size h) ⟨callB_of 2 hth (wsH_X mC_134) rfl rfl rfl (htw _ mC_0) (htl _ mL_19) q_P_want ⟨by show 9 + 1 ≤ 10; omega, by show 8 + (3 + 11) + 141 ≤ 163; omega⟩, htw _ mC_132, htw _ mC_133⟩ (kb_preVh (NN' := eeC (va_A (wC A G M0) s.heap.size)) eeC_blind hw [1, 2, 3, 4, 5, 6, 7, 8, 9, 10, 11, 12, 13, 14, 15, 16, 17] [1, 2, 3, 4, 5, 6, 7, 8, 9, 10, 11, 12, 13] rfl rfl (by decide) rfl (fun U hU hW => eeC_call hN.1 hW hU hw.2.2.2.1 hF) 0 (wC_0 A G _) rfl) rfl rfl hl.1 rfl (lv_room (Nat.le_of_ble_eq_true rfl)) d_L_want_3 ⟨Nat.le_refl 1, Nat.le_refl 6⟩) hw.2.2.2.1 (fun q _ h => hF q h) hF (fun q _ h => hF q h) (fun E ce q9 u t H1 locs1 ht hvm hp hB hz hk hS hcell hv hcl => ?_) (fun u t H1 locs1 ht hvm hp => hp.elim)
  obtain ⟨rfl, hpost⟩ := hB
  have hw : kb_K D kcl (tyH cO G) (wH o cO f A G M') s (va_A (wH o cO f A G M0) sz) H1 locs1 := kb_behind (wr := [(o, .inl (cO, 1, .inr (.inl f)))]) (w1 := wC A G M') hw [1, 2, 3, 4, 5, 6, 7, 8, 9, 10, 11, 12, 13, 14, 15, 16, 17] [0] hC rfl (by decide) (by decide) rfl ht hpost hk hS
  refine vx_catch (name := kb_ex 1) hown [] ⟨0, 6, 9, 19⟩ [⟨0, 6, 12, 26⟩, ⟨0, 6, 15, 13⟩] htab (fun z hz => by cases hz) (by decide) (by decide) (htl _ mL_12) (va_Nw.use rfl (hN.1.2.1 _ (List.mem_of_getElem? (i := 3) rfl))) hcell hv hcl ?_
  refine lv_astore_n (lv' := [(3, .ref q9), (0, .ref (A 0)), (1, .int x1), (2, .int x2)]) hx hb d_L_want_9 rfl hl (by decide) rfl (fun ls hl => ?_)
  refine lv_iconst (v := 1) hx hb d_L_want_10 (by decide) ?_
  refine W.cs (cells' := 1) (slots' := 6) rfl rfl ?_
  exact kb_iret hx hb hr hw hlocks d_L_want_11
set_option maxHeartbeats 4000000 in
set_option maxRecDepth 100000 in
theorem t1_L_want (l : Launch) (hlt : l.stackTraces = false) (D : va_G) (o : Nat) (cO : ClassId) (f : Nat → Int64) (A : Nat → Nat) (G : Nat → ClassId) (x1 x2 : Int32) (M0 : Nat → Nat → Int32) (M' : Nat → Nat → Int32) (sz : Nat) (h : x_P_want x1 x2 M0 = some (2, M')) : Met l y_L_want (Cond.codeWith y_L_want method_5_code 4 (some .int) [(0, 6, 9, 19), (0, 6, 12, 26), (0, 6, 15, 13)] :: wsH) { frames := 10, cells := 1, slots := 6, locals := 163 } (va_Pc [.ref (A 0), .int x1, .int x2] (kb_pre D kcl (tyH cO G) (wH o cO f A G M0) (eH (va_A (wH o cO f A G M0) sz)) sz)) (va_Qi (fun r' (_ : Unit) => r' = 2) (fun _ t => kb_post D kcl (tyH cO G) (wH o cO f A G M0) (wH o cO f A G M') sz t) (va_A (wH o cO f A G M0) sz)) 1 6 (va_A (wH o cO f A G M0) sz) := by
  refine va_MetW (cc := b_L_want) (maxL := 4) (ret := (some .int)) (hh := [(0, 6, 9, 19), (0, 6, 12, 26), (0, 6, 15, 13)]) (by decide) rfl ?_
  intro p e s m args below meth c s₁ B hml hv
  obtain ⟨rfl, hpre⟩ := hv
  obtain ⟨hw, hN⟩ := kb_enter hpre
  have hx := B.exec
  have hb := B.bytes
  have hr := B.returns
  have hts := atoms_spec (ws := (Cond.codeWith y_L_want method_5_code 4 (some .int) [(0, 6, 9, 19), (0, 6, 12, 26), (0, 6, 15, 13)] :: wsH)) B.pre
  have hth : ∀ w ∈ wsH, w.before ([.ref (A 0), .int x1, .int x2] : List Value).toArray s = true := fun w h => hts w (List.mem_cons_of_mem _ h)
  have htl : ∀ w ∈ wsL, w.before ([.ref (A 0), .int x1, .int x2] : List Value).toArray s = true := fun w h => hth w (List.mem_append_left _ h)
  have htw : ∀ w ∈ wsC, w.before ([.ref (A 0), .int x1, .int x2] : List Value).toArray s = true := fun w h => hth w (List.mem_append_right _ (List.mem_append_left _ h))
  have hown : s.vm.findClass "PileLiftsLaw" = some m.cls := findClass_of_methodNamed B.named
  have hlocks := B.notSynchronized
  have hl := lv_entry ([.ref (A 0), .int x1, .int x2]) (n := 4) (Nat.le_of_ble_eq_true rfl)
  rw [lg_entry_eq]
  generalize (lg_sl ([.ref (A 0), .int x1, .int x2]) ++ List.replicate (4 - (lg_sl ([.ref (A 0), .int x1, .int x2])).length) Slot.unset).toArray = ls at hl ⊢
  have hl : lv_has ls 4 [(0, .ref (A 0)), (1, .int x1), (2, .int x2)] := hl
  have htab := vx_table (x := y_L_want) B (hts _ List.mem_cons_self)
  refine lv_aload_n hx hb d_L_want_0 rfl (lv_at hl 0 rfl) ?_
  refine lv_iload_n hx hb d_L_want_1 rfl (lv_at hl 1 rfl) ?_
  refine lv_iload_n hx hb d_L_want_2 rfl (lv_at hl 2 rfl) ?_
  have hC : [1, 2, 3, 4, 5, 6, 7, 8, 9, 10, 11, 12, 13, 14, 15, 16, 17].map (fun i => (wH o cO f A G M0)[i]?) = (wC A G M0).map some := rfl
  have hF := va_free (wc := wC A G M0) hw.2.2.1 hw.2.2.2.1 hw.2.2.2.2 [1, 2, 3, 4, 5, 6, 7, 8, 9, 10, 11, 12, 13, 14, 15, 16, 17] hC
  refine vx_callv (vx_runV (As := [.int x1, .int x2]) (rest := []) ⟨hx, hb, hml, hown, hth⟩ (xc_P_want l hlt D A G x1 x2 M0 _ _ s.heap.size h) ⟨callB_of 2 hth (wsH_X mC_134) rfl rfl rfl (htw _ mC_0) (htl _ mL_19) q_P_want ⟨by show 9 + 1 ≤ 10; omega, by show 8 + (3 + 11) + 141 ≤ 163; omega⟩, htw _ mC_132, htw _ mC_133⟩ (kb_preVh (NN' := eeC (va_A (wC A G M0) s.heap.size)) eeC_blind hw [1, 2, 3, 4, 5, 6, 7, 8, 9, 10, 11, 12, 13, 14, 15, 16, 17] [1, 2, 3, 4, 5, 6, 7, 8, 9, 10, 11, 12, 13] rfl rfl (by decide) rfl (fun U hU hW => eeC_call hN.1 hW hU hw.2.2.2.1 hF) 0 (wC_0 A G _) rfl) rfl rfl hl.1 rfl (lv_room (Nat.le_of_ble_eq_true rfl)) d_L_want_3 ⟨Nat.le_refl 1, Nat.le_refl 6⟩) hw.2.2.2.1 (fun q _ h => hF q h) hF (fun q _ h => hF q h) (fun E ce q9 u t H1 locs1 ht hvm hp hB hz hk hS hcell hv hcl => ?_) (fun u t H1 locs1 ht hvm hp => hp.elim)
  obtain ⟨rfl, hpost⟩ := hB
  have hw : kb_K D kcl (tyH cO G) (wH o cO f A G M') s (va_A (wH o cO f A G M0) sz) H1 locs1 := kb_behind (wr := [(o, .inl (cO, 1, .inr (.inl f)))]) (w1 := wC A G M') hw [1, 2, 3, 4, 5, 6, 7, 8, 9, 10, 11, 12, 13, 14, 15, 16, 17] [0] hC rfl (by decide) (by decide) rfl ht hpost hk hS
  refine vx_catch (name := kb_ex 2) hown [⟨0, 6, 9, 19⟩] ⟨0, 6, 12, 26⟩ [⟨0, 6, 15, 13⟩] htab (fun z hz => by
    rcases List.mem_singleton.mp hz with rfl
    · exact Or.inr ⟨by decide, _, htl _ mL_12, hN.2.1⟩) (by decide) (by decide) (htl _ mL_18) (va_Nw.use rfl (hN.1.2.1 _ (List.mem_of_getElem? (i := 4) rfl))) hcell hv hcl ?_
  refine lv_astore_n (lv' := [(3, .ref q9), (0, .ref (A 0)), (1, .int x1), (2, .int x2)]) hx hb d_L_want_12 rfl hl (by decide) rfl (fun ls hl => ?_)
  refine lv_iconst (v := 2) hx hb d_L_want_13 (by decide) ?_
  refine W.cs (cells' := 1) (slots' := 6) rfl rfl ?_
  exact kb_iret hx hb hr hw hlocks d_L_want_14
set_option maxHeartbeats 4000000 in
set_option maxRecDepth 100000 in
theorem t2_L_want (l : Launch) (hlt : l.stackTraces = false) (D : va_G) (o : Nat) (cO : ClassId) (f : Nat → Int64) (A : Nat → Nat) (G : Nat → ClassId) (x1 x2 : Int32) (M0 : Nat → Nat → Int32) (M' : Nat → Nat → Int32) (sz : Nat) (h : x_P_want x1 x2 M0 = some (3, M')) : Met l y_L_want (Cond.codeWith y_L_want method_5_code 4 (some .int) [(0, 6, 9, 19), (0, 6, 12, 26), (0, 6, 15, 13)] :: wsH) { frames := 10, cells := 1, slots := 6, locals := 163 } (va_Pc [.ref (A 0), .int x1, .int x2] (kb_pre D kcl (tyH cO G) (wH o cO f A G M0) (eH (va_A (wH o cO f A G M0) sz)) sz)) (va_Qi (fun r' (_ : Unit) => r' = 3) (fun _ t => kb_post D kcl (tyH cO G) (wH o cO f A G M0) (wH o cO f A G M') sz t) (va_A (wH o cO f A G M0) sz)) 1 6 (va_A (wH o cO f A G M0) sz) := by
  refine va_MetW (cc := b_L_want) (maxL := 4) (ret := (some .int)) (hh := [(0, 6, 9, 19), (0, 6, 12, 26), (0, 6, 15, 13)]) (by decide) rfl ?_
  intro p e s m args below meth c s₁ B hml hv
  obtain ⟨rfl, hpre⟩ := hv
  obtain ⟨hw, hN⟩ := kb_enter hpre
  have hx := B.exec
  have hb := B.bytes
  have hr := B.returns
  have hts := atoms_spec (ws := (Cond.codeWith y_L_want method_5_code 4 (some .int) [(0, 6, 9, 19), (0, 6, 12, 26), (0, 6, 15, 13)] :: wsH)) B.pre
  have hth : ∀ w ∈ wsH, w.before ([.ref (A 0), .int x1, .int x2] : List Value).toArray s = true := fun w h => hts w (List.mem_cons_of_mem _ h)
  have htl : ∀ w ∈ wsL, w.before ([.ref (A 0), .int x1, .int x2] : List Value).toArray s = true := fun w h => hth w (List.mem_append_left _ h)
  have htw : ∀ w ∈ wsC, w.before ([.ref (A 0), .int x1, .int x2] : List Value).toArray s = true := fun w h => hth w (List.mem_append_right _ (List.mem_append_left _ h))
  have hown : s.vm.findClass "PileLiftsLaw" = some m.cls := findClass_of_methodNamed B.named
  have hlocks := B.notSynchronized
  have hl := lv_entry ([.ref (A 0), .int x1, .int x2]) (n := 4) (Nat.le_of_ble_eq_true rfl)
  rw [lg_entry_eq]
  generalize (lg_sl ([.ref (A 0), .int x1, .int x2]) ++ List.replicate (4 - (lg_sl ([.ref (A 0), .int x1, .int x2])).length) Slot.unset).toArray = ls at hl ⊢
  have hl : lv_has ls 4 [(0, .ref (A 0)), (1, .int x1), (2, .int x2)] := hl
  have htab := vx_table (x := y_L_want) B (hts _ List.mem_cons_self)
  refine lv_aload_n hx hb d_L_want_0 rfl (lv_at hl 0 rfl) ?_
  refine lv_iload_n hx hb d_L_want_1 rfl (lv_at hl 1 rfl) ?_
  refine lv_iload_n hx hb d_L_want_2 rfl (lv_at hl 2 rfl) ?_
  have hC : [1, 2, 3, 4, 5, 6, 7, 8, 9, 10, 11, 12, 13, 14, 15, 16, 17].map (fun i => (wH o cO f A G M0)[i]?) = (wC A G M0).map some := rfl
  have hF := va_free (wc := wC A G M0) hw.2.2.1 hw.2.2.2.1 hw.2.2.2.2 [1, 2, 3, 4, 5, 6, 7, 8, 9, 10, 11, 12, 13, 14, 15, 16, 17] hC
  refine vx_callv (vx_runV (As := [.int x1, .int x2]) (rest := []) ⟨hx, hb, hml, hown, hth⟩ (xc_P_want l hlt D A G x1 x2 M0 _ _ s.heap.size h) ⟨callB_of 2 hth (wsH_X mC_134) rfl rfl rfl (htw _ mC_0) (htl _ mL_19) q_P_want ⟨by show 9 + 1 ≤ 10; omega, by show 8 + (3 + 11) + 141 ≤ 163; omega⟩, htw _ mC_132, htw _ mC_133⟩ (kb_preVh (NN' := eeC (va_A (wC A G M0) s.heap.size)) eeC_blind hw [1, 2, 3, 4, 5, 6, 7, 8, 9, 10, 11, 12, 13, 14, 15, 16, 17] [1, 2, 3, 4, 5, 6, 7, 8, 9, 10, 11, 12, 13] rfl rfl (by decide) rfl (fun U hU hW => eeC_call hN.1 hW hU hw.2.2.2.1 hF) 0 (wC_0 A G _) rfl) rfl rfl hl.1 rfl (lv_room (Nat.le_of_ble_eq_true rfl)) d_L_want_3 ⟨Nat.le_refl 1, Nat.le_refl 6⟩) hw.2.2.2.1 (fun q _ h => hF q h) hF (fun q _ h => hF q h) (fun E ce q9 u t H1 locs1 ht hvm hp hB hz hk hS hcell hv hcl => ?_) (fun u t H1 locs1 ht hvm hp => hp.elim)
  obtain ⟨rfl, hpost⟩ := hB
  have hw : kb_K D kcl (tyH cO G) (wH o cO f A G M') s (va_A (wH o cO f A G M0) sz) H1 locs1 := kb_behind (wr := [(o, .inl (cO, 1, .inr (.inl f)))]) (w1 := wC A G M') hw [1, 2, 3, 4, 5, 6, 7, 8, 9, 10, 11, 12, 13, 14, 15, 16, 17] [0] hC rfl (by decide) (by decide) rfl ht hpost hk hS
  refine vx_catch (name := kb_ex 3) hown [⟨0, 6, 9, 19⟩, ⟨0, 6, 12, 26⟩] ⟨0, 6, 15, 13⟩ [] htab (fun z hz => by
    rcases (by simpa using hz : z = ⟨0, 6, 9, 19⟩ ∨ z = ⟨0, 6, 12, 26⟩) with rfl | rfl
    · exact Or.inr ⟨by decide, _, htl _ mL_12, hN.2.2.1⟩
    · exact Or.inr ⟨by decide, _, htl _ mL_18, hN.2.2.2.1⟩) (by decide) (by decide) (htl _ mL_7) (va_Nw.use rfl (hN.1.2.1 _ (List.mem_of_getElem? (i := 5) rfl))) hcell hv hcl ?_
  refine lv_astore_n (lv' := [(3, .ref q9), (0, .ref (A 0)), (1, .int x1), (2, .int x2)]) hx hb d_L_want_15 rfl hl (by decide) rfl (fun ls hl => ?_)
  refine lv_iconst (v := 3) hx hb d_L_want_16 (by decide) ?_
  refine W.cs (cells' := 1) (slots' := 6) rfl rfl ?_
  exact kb_iret hx hb hr hw hlocks d_L_want_17
set_option maxHeartbeats 4000000 in
set_option maxRecDepth 100000 in
theorem n_L_may (l : Launch) (D : va_G) (o : Nat) (cO : ClassId) (f : Nat → Int64) (A : Nat → Nat) (G : Nat → ClassId) (x1 x2 : Int32) (M0 : Nat → Nat → Int32) (r : Int32) (M' : Nat → Nat → Int32) (sz : Nat) (h : f_P_may x1 x2 M0 = some (r, M')) : Met l y_L_may (Cond.codeWith y_L_may method_6_code 5 (some .int) [(0, 17, 20, 19)] :: wsH) { frames := 4, cells := 0, slots := 0, locals := 86 } (va_Pc [.ref (A 0), .int x1, .int x2, .ref o] (kb_pre D kcl (tyH cO G) (wH o cO f A G M0) nnC sz)) (va_Qi (fun r' (_ : Unit) => r' = 0) (fun _ t => kb_post D kcl (tyH cO G) (wH o cO f A G M0) (wH o cO (vp_updL f 0 (if r = 0 then 0 else 1)) A G M') sz t) (va_A (wH o cO f A G M0) sz)) 0 0 (va_A (wH o cO f A G M0) sz) := by
  refine va_MetW (cc := b_L_may) (maxL := 5) (ret := (some .int)) (hh := [(0, 17, 20, 19)]) (by decide) rfl ?_
  intro p e s m args below meth c s₁ B hml hv
  obtain ⟨rfl, hpre⟩ := hv
  obtain ⟨hw, hN⟩ := kb_enter hpre
  have hx := B.exec
  have hb := B.bytes
  have hr := B.returns
  have hts := atoms_spec (ws := (Cond.codeWith y_L_may method_6_code 5 (some .int) [(0, 17, 20, 19)] :: wsH)) B.pre
  have hth : ∀ w ∈ wsH, w.before ([.ref (A 0), .int x1, .int x2, .ref o] : List Value).toArray s = true := fun w h => hts w (List.mem_cons_of_mem _ h)
  have htl : ∀ w ∈ wsL, w.before ([.ref (A 0), .int x1, .int x2, .ref o] : List Value).toArray s = true := fun w h => hth w (List.mem_append_left _ h)
  have htw : ∀ w ∈ wsC, w.before ([.ref (A 0), .int x1, .int x2, .ref o] : List Value).toArray s = true := fun w h => hth w (List.mem_append_right _ (List.mem_append_left _ h))
  have hown : s.vm.findClass "PileLiftsLaw" = some m.cls := findClass_of_methodNamed B.named
  have hlocks := B.notSynchronized
  have hl := lv_entry ([.ref (A 0), .int x1, .int x2, .ref o]) (n := 5) (Nat.le_of_ble_eq_true rfl)
  rw [lg_entry_eq]
  generalize (lg_sl ([.ref (A 0), .int x1, .int x2, .ref o]) ++ List.replicate (5 - (lg_sl ([.ref (A 0), .int x1, .int x2, .ref o])).length) Slot.unset).toArray = ls at hl ⊢
  have hl : lv_has ls 5 [(0, .ref (A 0)), (1, .int x1), (2, .int x2), (3, .ref o)] := hl
  refine lv_aload_n hx hb d_L_may_0 rfl (lv_at hl 3 rfl) ?_
  refine lv_iconst (v := 0) hx hb d_L_may_1 (by decide) ?_
  refine lv_aload_n hx hb d_L_may_2 rfl (lv_at hl 0 rfl) ?_
  refine lv_iload_n hx hb d_L_may_3 rfl (lv_at hl 1 rfl) ?_
  refine lv_iload_n hx hb d_L_may_4 rfl (lv_at hl 2 rfl) ?_
  refine kb_calli (wc := wC A G M0) (wr := [(o, .inl (cO, 1, .inr (.inl f)))]) (w1 := wC A G M') (ws' := (wH o cO f A G M')) (va_runV (As := [.int x1, .int x2]) (rest := [.int 0, .ref o]) ⟨hx, hb, hml, hown, hth⟩ (c_P_may l D A G x1 x2 M0 _ _ s.heap.size h) ⟨callB_of 2 hth (wsH_C mC_144) rfl rfl rfl (htw _ mC_0) (htl _ mL_23) q_P_may ⟨by show 3 + 1 ≤ 4; omega, by show 8 + (3 + 11) + 64 ≤ 86; omega⟩, htw _ mC_142, htw _ mC_143⟩ (kb_preVh nnC_b hw [1, 2, 3, 4, 5, 6, 7, 8, 9, 10, 11, 12, 13, 14, 15, 16, 17] [1, 2, 3, 4, 5, 6, 7, 8, 9, 10, 11, 12, 13] rfl rfl (by decide) rfl (fun U hU hW => nnC_warm s U hW hN) 0 (wC_0 A G _) rfl) rfl rfl hl.1 rfl (lv_room (Nat.le_of_ble_eq_true rfl)) d_L_may_5 ⟨Nat.zero_le _, Nat.zero_le _⟩) hw [1, 2, 3, 4, 5, 6, 7, 8, 9, 10, 11, 12, 13, 14, 15, 16, 17] [0] rfl rfl (by decide) (by decide) rfl (fun H locs hw => ?_)
  refine W.cs (cells' := 0) (slots' := 0) rfl rfl ?_
  refine lv_if_eq (tgt := 15) hx hb d_L_may_8 (by decide) (fun cz => ?_) (fun cz => ?_)
  · refine lv_lconst (v := 0) hx hb d_L_may_15 (by decide) ?_
    refine va_last hx hb hw.1 hw.2.1 hw.2.2.1 hw.2.2.2.1 0 0 rfl rfl (show ¬ ((0 : Int32) < 0 ∨ 1 ≤ (0 : Int32).toNatClampNeg) by decide) d_L_may_16 (fun H locs hP hD hS => ?_)
    have hw : kb_K D kcl (tyH cO G) (wH o cO (vp_updL f 0 (if r = 0 then 0 else 1)) A G M') s (va_A (wH o cO f A G M0) sz) H locs := ⟨hw.1, by rw [if_pos cz]; exact hP, by rw [if_pos cz]; exact hD, hS, hw.2.2.2.2⟩
    refine lv_goto (tgt := 24) hx hb d_L_may_17 (by decide) ?_
    refine lv_iconst (v := 0) hx hb d_L_may_24 (by decide) ?_
    exact kb_iret hx hb hr hw hlocks d_L_may_25
  · refine lv_lconst (v := 1) hx hb d_L_may_11 (by decide) ?_
    refine lv_goto (tgt := 16) hx hb d_L_may_12 (by decide) ?_
    refine va_last hx hb hw.1 hw.2.1 hw.2.2.1 hw.2.2.2.1 0 0 rfl rfl (show ¬ ((0 : Int32) < 0 ∨ 1 ≤ (0 : Int32).toNatClampNeg) by decide) d_L_may_16 (fun H locs hP hD hS => ?_)
    have hw : kb_K D kcl (tyH cO G) (wH o cO (vp_updL f 0 (if r = 0 then 0 else 1)) A G M') s (va_A (wH o cO f A G M0) sz) H locs := ⟨hw.1, by rw [if_neg cz]; exact hP, by rw [if_neg cz]; exact hD, hS, hw.2.2.2.2⟩
    refine lv_goto (tgt := 24) hx hb d_L_may_17 (by decide) ?_
    refine lv_iconst (v := 0) hx hb d_L_may_24 (by decide) ?_
    exact kb_iret hx hb hr hw hlocks d_L_may_25
set_option maxHeartbeats 4000000 in
set_option maxRecDepth 100000 in
theorem t0_L_may (l : Launch) (hlt : l.stackTraces = false) (D : va_G) (o : Nat) (cO : ClassId) (f : Nat → Int64) (A : Nat → Nat) (G : Nat → ClassId) (x1 x2 : Int32) (M0 : Nat → Nat → Int32) (M' : Nat → Nat → Int32) (sz : Nat) (h : x_P_may x1 x2 M0 = some (1, M')) : Met l y_L_may (Cond.codeWith y_L_may method_6_code 5 (some .int) [(0, 17, 20, 19)] :: wsH) { frames := 10, cells := 1, slots := 6, locals := 163 } (va_Pc [.ref (A 0), .int x1, .int x2, .ref o] (kb_pre D kcl (tyH cO G) (wH o cO f A G M0) (eH (va_A (wH o cO f A G M0) sz)) sz)) (va_Qi (fun r' (_ : Unit) => r' = 1) (fun _ t => kb_post D kcl (tyH cO G) (wH o cO f A G M0) (wH o cO f A G M') sz t) (va_A (wH o cO f A G M0) sz)) 1 6 (va_A (wH o cO f A G M0) sz) := by
  refine va_MetW (cc := b_L_may) (maxL := 5) (ret := (some .int)) (hh := [(0, 17, 20, 19)]) (by decide) rfl ?_
  intro p e s m args below meth c s₁ B hml hv
  obtain ⟨rfl, hpre⟩ := hv
  obtain ⟨hw, hN⟩ := kb_enter hpre
  have hx := B.exec
  have hb := B.bytes
  have hr := B.returns
  have hts := atoms_spec (ws := (Cond.codeWith y_L_may method_6_code 5 (some .int) [(0, 17, 20, 19)] :: wsH)) B.pre
  have hth : ∀ w ∈ wsH, w.before ([.ref (A 0), .int x1, .int x2, .ref o] : List Value).toArray s = true := fun w h => hts w (List.mem_cons_of_mem _ h)
  have htl : ∀ w ∈ wsL, w.before ([.ref (A 0), .int x1, .int x2, .ref o] : List Value).toArray s = true := fun w h => hth w (List.mem_append_left _ h)
  have htw : ∀ w ∈ wsC, w.before ([.ref (A 0), .int x1, .int x2, .ref o] : List Value).toArray s = true := fun w h => hth w (List.mem_append_right _ (List.mem_append_left _ h))
  have hown : s.vm.findClass "PileLiftsLaw" = some m.cls := findClass_of_methodNamed B.named
  have hlocks := B.notSynchronized
  have hl := lv_entry ([.ref (A 0), .int x1, .int x2, .ref o]) (n := 5) (Nat.le_of_ble_eq_true rfl)
  rw [lg_entry_eq]
  generalize (lg_sl ([.ref (A 0), .int x1, .int x2, .ref o]) ++ List.replicate (5 - (lg_sl ([.ref (A 0), .int x1, .int x2, .ref o])).length) Slot.unset).toArray = ls at hl ⊢
  have hl : lv_has ls 5 [(0, .ref (A 0)), (1, .int x1), (2, .int x2), (3, .ref o)] := hl
  have htab := vx_table (x := y_L_may) B (hts _ List.mem_cons_self)
  refine lv_aload_n hx hb d_L_may_0 rfl (lv_at hl 3 rfl) ?_
  refine lv_iconst (v := 0) hx hb d_L_may_1 (by decide) ?_
  refine lv_aload_n hx hb d_L_may_2 rfl (lv_at hl 0 rfl) ?_
  refine lv_iload_n hx hb d_L_may_3 rfl (lv_at hl 1 rfl) ?_
  refine lv_iload_n hx hb d_L_may_4 rfl (lv_at hl 2 rfl) ?_
  have hC : [1, 2, 3, 4, 5, 6, 7, 8, 9, 10, 11, 12, 13, 14, 15, 16, 17].map (fun i => (wH o cO f A G M0)[i]?) = (wC A G M0).map some := rfl
  have hF := va_free (wc := wC A G M0) hw.2.2.1 hw.2.2.2.1 hw.2.2.2.2 [1, 2, 3, 4, 5, 6, 7, 8, 9, 10, 11, 12, 13, 14, 15, 16, 17] hC
  refine vx_calli (vx_runV (As := [.int x1, .int x2]) (rest := [.int 0, .ref o]) ⟨hx, hb, hml, hown, hth⟩ (xc_P_may l hlt D A G x1 x2 M0 _ _ s.heap.size h) ⟨callB_of 2 hth (wsH_X mC_144) rfl rfl rfl (htw _ mC_0) (htl _ mL_23) q_P_may ⟨by show 9 + 1 ≤ 10; omega, by show 8 + (3 + 11) + 141 ≤ 163; omega⟩, htw _ mC_142, htw _ mC_143⟩ (kb_preVh (NN' := eeC (va_A (wC A G M0) s.heap.size)) eeC_blind hw [1, 2, 3, 4, 5, 6, 7, 8, 9, 10, 11, 12, 13, 14, 15, 16, 17] [1, 2, 3, 4, 5, 6, 7, 8, 9, 10, 11, 12, 13] rfl rfl (by decide) rfl (fun U hU hW => eeC_call hN.1 hW hU hw.2.2.2.1 hF) 0 (wC_0 A G _) rfl) rfl rfl hl.1 rfl (lv_room (Nat.le_of_ble_eq_true rfl)) d_L_may_5 ⟨Nat.le_refl 1, Nat.le_refl 6⟩) hw.2.2.2.1 (fun q _ h => hF q h) hF (fun q _ h => hF q h) (fun E ce q9 u t H1 locs1 ht hvm hp hB hz hk hS hcell hv hcl => ?_) (fun r9 u t H1 locs1 ht hvm hp => hp.elim)
  obtain ⟨rfl, hpost⟩ := hB
  have hw : kb_K D kcl (tyH cO G) (wH o cO f A G M') s (va_A (wH o cO f A G M0) sz) H1 locs1 := kb_behind (wr := [(o, .inl (cO, 1, .inr (.inl f)))]) (w1 := wC A G M') hw [1, 2, 3, 4, 5, 6, 7, 8, 9, 10, 11, 12, 13, 14, 15, 16, 17] [0] hC rfl (by decide) (by decide) rfl ht hpost hk hS
  refine vx_catch (name := kb_ex 1) hown [] ⟨0, 17, 20, 19⟩ [] htab (fun z hz => by cases hz) (by decide) (by decide) (htl _ mL_12) (va_Nw.use rfl (hN.1.2.1 _ (List.mem_of_getElem? (i := 3) rfl))) hcell hv hcl ?_
  refine lv_astore (lv' := [(4, .ref q9), (0, .ref (A 0)), (1, .int x1), (2, .int x2), (3, .ref o)]) hx hb d_L_may_20 hl (by decide) rfl (fun ls hl => ?_)
  refine lv_iconst (v := 1) hx hb d_L_may_22 (by decide) ?_
  refine W.cs (cells' := 1) (slots' := 6) rfl rfl ?_
  exact kb_iret hx hb hr hw hlocks d_L_may_23
set_option maxHeartbeats 4000000 in
set_option maxRecDepth 100000 in
theorem n_L_run (l : Launch) (D : va_G) (o : Nat) (cO : ClassId) (f : Nat → Int64) (A : Nat → Nat) (G : Nat → ClassId) (x1 : Int32) (M0 : Nat → Nat → Int32) (r : Int32) (M' : Nat → Nat → Int32) (sz : Nat) (h : f_P_run x1 M0 = some (r, M')) : Met l y_L_run (Cond.codeWith y_L_run method_7_code 4 (some .int) [(0, 9, 12, 13)] :: wsH) { frames := 339, cells := 0, slots := 0, locals := 6790 } (va_Pc [.ref (A 0), .int x1, .ref o] (kb_pre D kcl (tyH cO G) (wH o cO f A G M0) nnC sz)) (va_Qi (fun r' (_ : Unit) => r' = 0) (fun _ t => kb_post D kcl (tyH cO G) (wH o cO f A G M0) (wH o cO (vp_updL f 0 r.toInt64) A G M') sz t) (va_A (wH o cO f A G M0) sz)) 0 0 (va_A (wH o cO f A G M0) sz) := by
  refine va_MetW (cc := b_L_run) (maxL := 4) (ret := (some .int)) (hh := [(0, 9, 12, 13)]) (by decide) rfl ?_
  intro p e s m args below meth c s₁ B hml hv
  obtain ⟨rfl, hpre⟩ := hv
  obtain ⟨hw, hN⟩ := kb_enter hpre
  have hx := B.exec
  have hb := B.bytes
  have hr := B.returns
  have hts := atoms_spec (ws := (Cond.codeWith y_L_run method_7_code 4 (some .int) [(0, 9, 12, 13)] :: wsH)) B.pre
  have hth : ∀ w ∈ wsH, w.before ([.ref (A 0), .int x1, .ref o] : List Value).toArray s = true := fun w h => hts w (List.mem_cons_of_mem _ h)
  have htl : ∀ w ∈ wsL, w.before ([.ref (A 0), .int x1, .ref o] : List Value).toArray s = true := fun w h => hth w (List.mem_append_left _ h)
  have htw : ∀ w ∈ wsC, w.before ([.ref (A 0), .int x1, .ref o] : List Value).toArray s = true := fun w h => hth w (List.mem_append_right _ (List.mem_append_left _ h))
  have hown : s.vm.findClass "PileLiftsLaw" = some m.cls := findClass_of_methodNamed B.named
  have hlocks := B.notSynchronized
  have hl := lv_entry ([.ref (A 0), .int x1, .ref o]) (n := 4) (Nat.le_of_ble_eq_true rfl)
  rw [lg_entry_eq]
  generalize (lg_sl ([.ref (A 0), .int x1, .ref o]) ++ List.replicate (4 - (lg_sl ([.ref (A 0), .int x1, .ref o])).length) Slot.unset).toArray = ls at hl ⊢
  have hl : lv_has ls 4 [(0, .ref (A 0)), (1, .int x1), (2, .ref o)] := hl
  refine lv_aload_n hx hb d_L_run_0 rfl (lv_at hl 2 rfl) ?_
  refine lv_iconst (v := 0) hx hb d_L_run_1 (by decide) ?_
  refine lv_aload_n hx hb d_L_run_2 rfl (lv_at hl 0 rfl) ?_
  refine lv_iload_n hx hb d_L_run_3 rfl (lv_at hl 1 rfl) ?_
  refine kb_calli (wc := wC A G M0) (wr := [(o, .inl (cO, 1, .inr (.inl f)))]) (w1 := wC A G M') (ws' := (wH o cO f A G M')) (va_runV (As := [.int x1]) (rest := [.int 0, .ref o]) ⟨hx, hb, hml, hown, hth⟩ (c_P_run l D A G x1 M0 _ _ s.heap.size h) ⟨callB_of 1 hth (wsH_C mC_147) rfl rfl rfl (htw _ mC_0) (htl _ mL_27) q_P_run ⟨by show 338 + 1 ≤ 339; omega, by show 8 + (2 + 11) + 6769 ≤ 6790; omega⟩, htw _ mC_145, htw _ mC_146⟩ (kb_preVh nnC_b hw [1, 2, 3, 4, 5, 6, 7, 8, 9, 10, 11, 12, 13, 14, 15, 16, 17] [1, 2, 3, 4, 5, 6, 7, 8, 9, 10, 11, 12, 13] rfl rfl (by decide) rfl (fun U hU hW => nnC_warm s U hW hN) 0 (wC_0 A G _) rfl) rfl rfl hl.1 rfl (lv_room (Nat.le_of_ble_eq_true rfl)) d_L_run_4 ⟨Nat.zero_le _, Nat.zero_le _⟩) hw [1, 2, 3, 4, 5, 6, 7, 8, 9, 10, 11, 12, 13, 14, 15, 16, 17] [0] rfl rfl (by decide) (by decide) rfl (fun H locs hw => ?_)
  refine W.cs (cells' := 0) (slots' := 0) rfl rfl ?_
  refine lv_i2l (v := r.toInt64) hx hb d_L_run_7 rfl ?_
  refine va_last hx hb hw.1 hw.2.1 hw.2.2.1 hw.2.2.2.1 0 0 rfl rfl (show ¬ ((0 : Int32) < 0 ∨ 1 ≤ (0 : Int32).toNatClampNeg) by decide) d_L_run_8 (fun H locs hP hD hS => ?_)
  have hw : kb_K D kcl (tyH cO G) (wH o cO (vp_updL f 0 r.toInt64) A G M') s (va_A (wH o cO f A G M0) sz) H locs := ⟨hw.1, hP, hD, hS, hw.2.2.2.2⟩
  refine lv_goto (tgt := 15) hx hb d_L_run_9 (by decide) ?_
  refine lv_iconst (v := 0) hx hb d_L_run_15 (by decide) ?_
  exact kb_iret hx hb hr hw hlocks d_L_run_16
set_option maxHeartbeats 4000000 in
set_option maxRecDepth 100000 in
theorem t0_L_run (l : Launch) (hlt : l.stackTraces = false) (D : va_G) (o : Nat) (cO : ClassId) (f : Nat → Int64) (A : Nat → Nat) (G : Nat → ClassId) (x1 : Int32) (M0 : Nat → Nat → Int32) (M' : Nat → Nat → Int32) (sz : Nat) (h : x_P_run x1 M0 = some (3, M')) : Met l y_L_run (Cond.codeWith y_L_run method_7_code 4 (some .int) [(0, 9, 12, 13)] :: wsH) { frames := 339, cells := 1, slots := 6, locals := 6790 } (va_Pc [.ref (A 0), .int x1, .ref o] (kb_pre D kcl (tyH cO G) (wH o cO f A G M0) (eH (va_A (wH o cO f A G M0) sz)) sz)) (va_Qi (fun r' (_ : Unit) => r' = 1) (fun _ t => kb_post D kcl (tyH cO G) (wH o cO f A G M0) (wH o cO f A G M') sz t) (va_A (wH o cO f A G M0) sz)) 1 6 (va_A (wH o cO f A G M0) sz) := by
  refine va_MetW (cc := b_L_run) (maxL := 4) (ret := (some .int)) (hh := [(0, 9, 12, 13)]) (by decide) rfl ?_
  intro p e s m args below meth c s₁ B hml hv
  obtain ⟨rfl, hpre⟩ := hv
  obtain ⟨hw, hN⟩ := kb_enter hpre
  have hx := B.exec
  have hb := B.bytes
  have hr := B.returns
  have hts := atoms_spec (ws := (Cond.codeWith y_L_run method_7_code 4 (some .int) [(0, 9, 12, 13)] :: wsH)) B.pre
  have hth : ∀ w ∈ wsH, w.before ([.ref (A 0), .int x1, .ref o] : List Value).toArray s = true := fun w h => hts w (List.mem_cons_of_mem _ h)
  have htl : ∀ w ∈ wsL, w.before ([.ref (A 0), .int x1, .ref o] : List Value).toArray s = true := fun w h => hth w (List.mem_append_left _ h)
  have htw : ∀ w ∈ wsC, w.before ([.ref (A 0), .int x1, .ref o] : List Value).toArray s = true := fun w h => hth w (List.mem_append_right _ (List.mem_append_left _ h))
  have hown : s.vm.findClass "PileLiftsLaw" = some m.cls := findClass_of_methodNamed B.named
  have hlocks := B.notSynchronized
  have hl := lv_entry ([.ref (A 0), .int x1, .ref o]) (n := 4) (Nat.le_of_ble_eq_true rfl)
  rw [lg_entry_eq]
  generalize (lg_sl ([.ref (A 0), .int x1, .ref o]) ++ List.replicate (4 - (lg_sl ([.ref (A 0), .int x1, .ref o])).length) Slot.unset).toArray = ls at hl ⊢
  have hl : lv_has ls 4 [(0, .ref (A 0)), (1, .int x1), (2, .ref o)] := hl
  have htab := vx_table (x := y_L_run) B (hts _ List.mem_cons_self)
  refine lv_aload_n hx hb d_L_run_0 rfl (lv_at hl 2 rfl) ?_
  refine lv_iconst (v := 0) hx hb d_L_run_1 (by decide) ?_
  refine lv_aload_n hx hb d_L_run_2 rfl (lv_at hl 0 rfl) ?_
  refine lv_iload_n hx hb d_L_run_3 rfl (lv_at hl 1 rfl) ?_
  have hC : [1, 2, 3, 4, 5, 6, 7, 8, 9, 10, 11, 12, 13, 14, 15, 16, 17].map (fun i => (wH o cO f A G M0)[i]?) = (wC A G M0).map some := rfl
  have hF := va_free (wc := wC A G M0) hw.2.2.1 hw.2.2.2.1 hw.2.2.2.2 [1, 2, 3, 4, 5, 6, 7, 8, 9, 10, 11, 12, 13, 14, 15, 16, 17] hC
  refine vx_calli (vx_runV (As := [.int x1]) (rest := [.int 0, .ref o]) ⟨hx, hb, hml, hown, hth⟩ (xc_P_run l hlt D A G x1 M0 _ _ s.heap.size h) ⟨callB_of 1 hth (wsH_X mC_147) rfl rfl rfl (htw _ mC_0) (htl _ mL_27) q_P_run ⟨by show 338 + 1 ≤ 339; omega, by show 8 + (2 + 11) + 6769 ≤ 6790; omega⟩, htw _ mC_145, htw _ mC_146⟩ (kb_preVh (NN' := eeC (va_A (wC A G M0) s.heap.size)) eeC_blind hw [1, 2, 3, 4, 5, 6, 7, 8, 9, 10, 11, 12, 13, 14, 15, 16, 17] [1, 2, 3, 4, 5, 6, 7, 8, 9, 10, 11, 12, 13] rfl rfl (by decide) rfl (fun U hU hW => eeC_call hN.1 hW hU hw.2.2.2.1 hF) 0 (wC_0 A G _) rfl) rfl rfl hl.1 rfl (lv_room (Nat.le_of_ble_eq_true rfl)) d_L_run_4 ⟨Nat.le_refl 1, Nat.le_refl 6⟩) hw.2.2.2.1 (fun q _ h => hF q h) hF (fun q _ h => hF q h) (fun E ce q9 u t H1 locs1 ht hvm hp hB hz hk hS hcell hv hcl => ?_) (fun r9 u t H1 locs1 ht hvm hp => hp.elim)
  obtain ⟨rfl, hpost⟩ := hB
  have hw : kb_K D kcl (tyH cO G) (wH o cO f A G M') s (va_A (wH o cO f A G M0) sz) H1 locs1 := kb_behind (wr := [(o, .inl (cO, 1, .inr (.inl f)))]) (w1 := wC A G M') hw [1, 2, 3, 4, 5, 6, 7, 8, 9, 10, 11, 12, 13, 14, 15, 16, 17] [0] hC rfl (by decide) (by decide) rfl ht hpost hk hS
  refine vx_catch (name := kb_ex 3) hown [] ⟨0, 9, 12, 13⟩ [] htab (fun z hz => by cases hz) (by decide) (by decide) (htl _ mL_7) (va_Nw.use rfl (hN.1.2.1 _ (List.mem_of_getElem? (i := 5) rfl))) hcell hv hcl ?_
  refine lv_astore_n (lv' := [(3, .ref q9), (0, .ref (A 0)), (1, .int x1), (2, .ref o)]) hx hb d_L_run_12 rfl hl (by decide) rfl (fun ls hl => ?_)
  refine lv_iconst (v := 1) hx hb d_L_run_13 (by decide) ?_
  refine W.cs (cells' := 1) (slots' := 6) rfl rfl ?_
  exact kb_iret hx hb hr hw hlocks d_L_run_14
set_option maxHeartbeats 4000000 in
set_option maxRecDepth 100000 in
theorem n_L_proved (l : Launch) (D : va_G) (o : Nat) (cO : ClassId) (f : Nat → Int64) (A : Nat → Nat) (G : Nat → ClassId) (M0 : Nat → Nat → Int32) (r : Int32) (M' : Nat → Nat → Int32) (sz : Nat) (h : f_P_proved M0 = some (r, M')) : Met l y_L_proved (Cond.codeWith y_L_proved method_8_code 3 (some .int) [(0, 15, 18, 26)] :: wsH) { frames := 1, cells := 0, slots := 0, locals := 20 } (va_Pc [.ref (A 0), .ref o] (kb_pre D kcl (tyH cO G) (wH o cO f A G M0) nnC sz)) (va_Qi (fun r' (_ : Unit) => r' = 0) (fun _ t => kb_post D kcl (tyH cO G) (wH o cO f A G M0) (wH o cO (vp_updL f 0 (if r = 0 then 0 else 1)) A G M') sz t) (va_A (wH o cO f A G M0) sz)) 0 0 (va_A (wH o cO f A G M0) sz) := by
  refine va_MetW (cc := b_L_proved) (maxL := 3) (ret := (some .int)) (hh := [(0, 15, 18, 26)]) (by decide) rfl ?_
  intro p e s m args below meth c s₁ B hml hv
  obtain ⟨rfl, hpre⟩ := hv
  obtain ⟨hw, hN⟩ := kb_enter hpre
  have hx := B.exec
  have hb := B.bytes
  have hr := B.returns
  have hts := atoms_spec (ws := (Cond.codeWith y_L_proved method_8_code 3 (some .int) [(0, 15, 18, 26)] :: wsH)) B.pre
  have hth : ∀ w ∈ wsH, w.before ([.ref (A 0), .ref o] : List Value).toArray s = true := fun w h => hts w (List.mem_cons_of_mem _ h)
  have htl : ∀ w ∈ wsL, w.before ([.ref (A 0), .ref o] : List Value).toArray s = true := fun w h => hth w (List.mem_append_left _ h)
  have htw : ∀ w ∈ wsC, w.before ([.ref (A 0), .ref o] : List Value).toArray s = true := fun w h => hth w (List.mem_append_right _ (List.mem_append_left _ h))
  have hown : s.vm.findClass "PileLiftsLaw" = some m.cls := findClass_of_methodNamed B.named
  have hlocks := B.notSynchronized
  have hl := lv_entry ([.ref (A 0), .ref o]) (n := 3) (Nat.le_of_ble_eq_true rfl)
  rw [lg_entry_eq]
  generalize (lg_sl ([.ref (A 0), .ref o]) ++ List.replicate (3 - (lg_sl ([.ref (A 0), .ref o])).length) Slot.unset).toArray = ls at hl ⊢
  have hl : lv_has ls 3 [(0, .ref (A 0)), (1, .ref o)] := hl
  refine lv_aload_n hx hb d_L_proved_0 rfl (lv_at hl 1 rfl) ?_
  refine lv_iconst (v := 0) hx hb d_L_proved_1 (by decide) ?_
  refine lv_aload_n hx hb d_L_proved_2 rfl (lv_at hl 0 rfl) ?_
  refine kb_calli (wc := wC A G M0) (wr := [(o, .inl (cO, 1, .inr (.inl f)))]) (w1 := wC A G M') (ws' := (wH o cO f A G M')) (va_runV (As := []) (rest := [.int 0, .ref o]) ⟨hx, hb, hml, hown, hth⟩ (c_P_proved l D A G M0 _ _ s.heap.size h) ⟨callB_of 0 hth (wsH_C mC_186) rfl rfl rfl (htw _ mC_0) (htl _ mL_31) q_P_proved ⟨by show 0 + 1 ≤ 1; omega, by show 8 + (1 + 11) + 0 ≤ 20; omega⟩, htw _ mC_184, htw _ mC_185⟩ (kb_preVh nnC_b hw [1, 2, 3, 4, 5, 6, 7, 8, 9, 10, 11, 12, 13, 14, 15, 16, 17] [1, 2, 3, 4, 5, 6, 7, 8, 9, 10, 11, 12, 13] rfl rfl (by decide) rfl (fun U hU hW => nnC_warm s U hW hN) 0 (wC_0 A G _) rfl) rfl rfl hl.1 rfl (lv_room (Nat.le_of_ble_eq_true rfl)) d_L_proved_3 ⟨Nat.zero_le _, Nat.zero_le _⟩) hw [1, 2, 3, 4, 5, 6, 7, 8, 9, 10, 11, 12, 13, 14, 15, 16, 17] [0] rfl rfl (by decide) (by decide) rfl (fun H locs hw => ?_)
  refine W.cs (cells' := 0) (slots' := 0) rfl rfl ?_
  refine lv_if_eq (tgt := 13) hx hb d_L_proved_6 (by decide) (fun cz => ?_) (fun cz => ?_)
  · refine lv_lconst (v := 0) hx hb d_L_proved_13 (by decide) ?_
    refine va_last hx hb hw.1 hw.2.1 hw.2.2.1 hw.2.2.2.1 0 0 rfl rfl (show ¬ ((0 : Int32) < 0 ∨ 1 ≤ (0 : Int32).toNatClampNeg) by decide) d_L_proved_14 (fun H locs hP hD hS => ?_)
    have hw : kb_K D kcl (tyH cO G) (wH o cO (vp_updL f 0 (if r = 0 then 0 else 1)) A G M') s (va_A (wH o cO f A G M0) sz) H locs := ⟨hw.1, by rw [if_pos cz]; exact hP, by rw [if_pos cz]; exact hD, hS, hw.2.2.2.2⟩
    refine lv_goto (tgt := 21) hx hb d_L_proved_15 (by decide) ?_
    refine lv_iconst (v := 0) hx hb d_L_proved_21 (by decide) ?_
    exact kb_iret hx hb hr hw hlocks d_L_proved_22
  · refine lv_lconst (v := 1) hx hb d_L_proved_9 (by decide) ?_
    refine lv_goto (tgt := 14) hx hb d_L_proved_10 (by decide) ?_
    refine va_last hx hb hw.1 hw.2.1 hw.2.2.1 hw.2.2.2.1 0 0 rfl rfl (show ¬ ((0 : Int32) < 0 ∨ 1 ≤ (0 : Int32).toNatClampNeg) by decide) d_L_proved_14 (fun H locs hP hD hS => ?_)
    have hw : kb_K D kcl (tyH cO G) (wH o cO (vp_updL f 0 (if r = 0 then 0 else 1)) A G M') s (va_A (wH o cO f A G M0) sz) H locs := ⟨hw.1, by rw [if_neg cz]; exact hP, by rw [if_neg cz]; exact hD, hS, hw.2.2.2.2⟩
    refine lv_goto (tgt := 21) hx hb d_L_proved_15 (by decide) ?_
    refine lv_iconst (v := 0) hx hb d_L_proved_21 (by decide) ?_
    exact kb_iret hx hb hr hw hlocks d_L_proved_22
set_option maxHeartbeats 4000000 in
set_option maxRecDepth 100000 in
theorem t0_L_proved (l : Launch) (hlt : l.stackTraces = false) (D : va_G) (o : Nat) (cO : ClassId) (f : Nat → Int64) (A : Nat → Nat) (G : Nat → ClassId) (M0 : Nat → Nat → Int32) (M' : Nat → Nat → Int32) (sz : Nat) (h : x_P_proved M0 = some (2, M')) : Met l y_L_proved (Cond.codeWith y_L_proved method_8_code 3 (some .int) [(0, 15, 18, 26)] :: wsH) { frames := 9, cells := 1, slots := 6, locals := 140 } (va_Pc [.ref (A 0), .ref o] (kb_pre D kcl (tyH cO G) (wH o cO f A G M0) (eH (va_A (wH o cO f A G M0) sz)) sz)) (va_Qi (fun r' (_ : Unit) => r' = 1) (fun _ t => kb_post D kcl (tyH cO G) (wH o cO f A G M0) (wH o cO f A G M') sz t) (va_A (wH o cO f A G M0) sz)) 1 6 (va_A (wH o cO f A G M0) sz) := by
  refine va_MetW (cc := b_L_proved) (maxL := 3) (ret := (some .int)) (hh := [(0, 15, 18, 26)]) (by decide) rfl ?_
  intro p e s m args below meth c s₁ B hml hv
  obtain ⟨rfl, hpre⟩ := hv
  obtain ⟨hw, hN⟩ := kb_enter hpre
  have hx := B.exec
  have hb := B.bytes
  have hr := B.returns
  have hts := atoms_spec (ws := (Cond.codeWith y_L_proved method_8_code 3 (some .int) [(0, 15, 18, 26)] :: wsH)) B.pre
  have hth : ∀ w ∈ wsH, w.before ([.ref (A 0), .ref o] : List Value).toArray s = true := fun w h => hts w (List.mem_cons_of_mem _ h)
  have htl : ∀ w ∈ wsL, w.before ([.ref (A 0), .ref o] : List Value).toArray s = true := fun w h => hth w (List.mem_append_left _ h)
  have htw : ∀ w ∈ wsC, w.before ([.ref (A 0), .ref o] : List Value).toArray s = true := fun w h => hth w (List.mem_append_right _ (List.mem_append_left _ h))
  have hown : s.vm.findClass "PileLiftsLaw" = some m.cls := findClass_of_methodNamed B.named
  have hlocks := B.notSynchronized
  have hl := lv_entry ([.ref (A 0), .ref o]) (n := 3) (Nat.le_of_ble_eq_true rfl)
  rw [lg_entry_eq]
  generalize (lg_sl ([.ref (A 0), .ref o]) ++ List.replicate (3 - (lg_sl ([.ref (A 0), .ref o])).length) Slot.unset).toArray = ls at hl ⊢
  have hl : lv_has ls 3 [(0, .ref (A 0)), (1, .ref o)] := hl
  have htab := vx_table (x := y_L_proved) B (hts _ List.mem_cons_self)
  refine lv_aload_n hx hb d_L_proved_0 rfl (lv_at hl 1 rfl) ?_
  refine lv_iconst (v := 0) hx hb d_L_proved_1 (by decide) ?_
  refine lv_aload_n hx hb d_L_proved_2 rfl (lv_at hl 0 rfl) ?_
  have hC : [1, 2, 3, 4, 5, 6, 7, 8, 9, 10, 11, 12, 13, 14, 15, 16, 17].map (fun i => (wH o cO f A G M0)[i]?) = (wC A G M0).map some := rfl
  have hF := va_free (wc := wC A G M0) hw.2.2.1 hw.2.2.2.1 hw.2.2.2.2 [1, 2, 3, 4, 5, 6, 7, 8, 9, 10, 11, 12, 13, 14, 15, 16, 17] hC
  refine vx_calli (vx_runV (As := []) (rest := [.int 0, .ref o]) ⟨hx, hb, hml, hown, hth⟩ (xc_P_proved l hlt D A G M0 _ _ s.heap.size h) ⟨callB_of 0 hth (wsH_X mC_186) rfl rfl rfl (htw _ mC_0) (htl _ mL_31) q_P_proved ⟨by show 8 + 1 ≤ 9; omega, by show 8 + (1 + 11) + 120 ≤ 140; omega⟩, htw _ mC_184, htw _ mC_185⟩ (kb_preVh (NN' := eeC (va_A (wC A G M0) s.heap.size)) eeC_blind hw [1, 2, 3, 4, 5, 6, 7, 8, 9, 10, 11, 12, 13, 14, 15, 16, 17] [1, 2, 3, 4, 5, 6, 7, 8, 9, 10, 11, 12, 13] rfl rfl (by decide) rfl (fun U hU hW => eeC_call hN.1 hW hU hw.2.2.2.1 hF) 0 (wC_0 A G _) rfl) rfl rfl hl.1 rfl (lv_room (Nat.le_of_ble_eq_true rfl)) d_L_proved_3 ⟨Nat.le_refl 1, Nat.le_refl 6⟩) hw.2.2.2.1 (fun q _ h => hF q h) hF (fun q _ h => hF q h) (fun E ce q9 u t H1 locs1 ht hvm hp hB hz hk hS hcell hv hcl => ?_) (fun r9 u t H1 locs1 ht hvm hp => hp.elim)
  obtain ⟨rfl, hpost⟩ := hB
  have hw : kb_K D kcl (tyH cO G) (wH o cO f A G M') s (va_A (wH o cO f A G M0) sz) H1 locs1 := kb_behind (wr := [(o, .inl (cO, 1, .inr (.inl f)))]) (w1 := wC A G M') hw [1, 2, 3, 4, 5, 6, 7, 8, 9, 10, 11, 12, 13, 14, 15, 16, 17] [0] hC rfl (by decide) (by decide) rfl ht hpost hk hS
  refine vx_catch (name := kb_ex 2) hown [] ⟨0, 15, 18, 26⟩ [] htab (fun z hz => by cases hz) (by decide) (by decide) (htl _ mL_18) (va_Nw.use rfl (hN.1.2.1 _ (List.mem_of_getElem? (i := 4) rfl))) hcell hv hcl ?_
  refine lv_astore_n (lv' := [(2, .ref q9), (0, .ref (A 0)), (1, .ref o)]) hx hb d_L_proved_18 rfl hl (by decide) rfl (fun ls hl => ?_)
  refine lv_iconst (v := 1) hx hb d_L_proved_19 (by decide) ?_
  refine W.cs (cells' := 1) (slots' := 6) rfl rfl ?_
  exact kb_iret hx hb hr hw hlocks d_L_proved_20
set_option maxHeartbeats 4000000 in
set_option maxRecDepth 100000 in
theorem n_L_moves (l : Launch) (D : va_G) (o : Nat) (cO : ClassId) (f : Nat → Int64) (A : Nat → Nat) (G : Nat → ClassId) (M0 : Nat → Nat → Int32) (r : Int32) (M' : Nat → Nat → Int32) (sz : Nat) (h : f_P_moves M0 = some (r, M')) : Met l y_L_moves (Cond.codeWith y_L_moves method_9_code 3 (some .int) [(0, 8, 11, 26)] :: wsH) { frames := 2, cells := 0, slots := 0, locals := 40 } (va_Pc [.ref (A 0), .ref o] (kb_pre D kcl (tyH cO G) (wH o cO f A G M0) nnC sz)) (va_Qi (fun r' (_ : Unit) => r' = 0) (fun _ t => kb_post D kcl (tyH cO G) (wH o cO f A G M0) (wH o cO (vp_updL f 0 r.toInt64) A G M') sz t) (va_A (wH o cO f A G M0) sz)) 0 0 (va_A (wH o cO f A G M0) sz) := by
  refine va_MetW (cc := b_L_moves) (maxL := 3) (ret := (some .int)) (hh := [(0, 8, 11, 26)]) (by decide) rfl ?_
  intro p e s m args below meth c s₁ B hml hv
  obtain ⟨rfl, hpre⟩ := hv
  obtain ⟨hw, hN⟩ := kb_enter hpre
  have hx := B.exec
  have hb := B.bytes
  have hr := B.returns
  have hts := atoms_spec (ws := (Cond.codeWith y_L_moves method_9_code 3 (some .int) [(0, 8, 11, 26)] :: wsH)) B.pre
  have hth : ∀ w ∈ wsH, w.before ([.ref (A 0), .ref o] : List Value).toArray s = true := fun w h => hts w (List.mem_cons_of_mem _ h)
  have htl : ∀ w ∈ wsL, w.before ([.ref (A 0), .ref o] : List Value).toArray s = true := fun w h => hth w (List.mem_append_left _ h)
  have htw : ∀ w ∈ wsC, w.before ([.ref (A 0), .ref o] : List Value).toArray s = true := fun w h => hth w (List.mem_append_right _ (List.mem_append_left _ h))
  have hown : s.vm.findClass "PileLiftsLaw" = some m.cls := findClass_of_methodNamed B.named
  have hlocks := B.notSynchronized
  have hl := lv_entry ([.ref (A 0), .ref o]) (n := 3) (Nat.le_of_ble_eq_true rfl)
  rw [lg_entry_eq]
  generalize (lg_sl ([.ref (A 0), .ref o]) ++ List.replicate (3 - (lg_sl ([.ref (A 0), .ref o])).length) Slot.unset).toArray = ls at hl ⊢
  have hl : lv_has ls 3 [(0, .ref (A 0)), (1, .ref o)] := hl
  refine lv_aload_n hx hb d_L_moves_0 rfl (lv_at hl 1 rfl) ?_
  refine lv_iconst (v := 0) hx hb d_L_moves_1 (by decide) ?_
  refine lv_aload_n hx hb d_L_moves_2 rfl (lv_at hl 0 rfl) ?_
  refine kb_calli (wc := wC A G M0) (wr := [(o, .inl (cO, 1, .inr (.inl f)))]) (w1 := wC A G M') (ws' := (wH o cO f A G M')) (va_runV (As := []) (rest := [.int 0, .ref o]) ⟨hx, hb, hml, hown, hth⟩ (c_P_moves l D A G M0 _ _ s.heap.size h) ⟨callB_of 0 hth (wsH_C mC_189) rfl rfl rfl (htw _ mC_0) (htl _ mL_35) q_P_moves ⟨by show 1 + 1 ≤ 2; omega, by show 8 + (1 + 11) + 20 ≤ 40; omega⟩, htw _ mC_187, htw _ mC_188⟩ (kb_preVh nnC_b hw [1, 2, 3, 4, 5, 6, 7, 8, 9, 10, 11, 12, 13, 14, 15, 16, 17] [1, 2, 3, 4, 5, 6, 7, 8, 9, 10, 11, 12, 13] rfl rfl (by decide) rfl (fun U hU hW => nnC_warm s U hW hN) 0 (wC_0 A G _) rfl) rfl rfl hl.1 rfl (lv_room (Nat.le_of_ble_eq_true rfl)) d_L_moves_3 ⟨Nat.zero_le _, Nat.zero_le _⟩) hw [1, 2, 3, 4, 5, 6, 7, 8, 9, 10, 11, 12, 13, 14, 15, 16, 17] [0] rfl rfl (by decide) (by decide) rfl (fun H locs hw => ?_)
  refine W.cs (cells' := 0) (slots' := 0) rfl rfl ?_
  refine lv_i2l (v := r.toInt64) hx hb d_L_moves_6 rfl ?_
  refine va_last hx hb hw.1 hw.2.1 hw.2.2.1 hw.2.2.2.1 0 0 rfl rfl (show ¬ ((0 : Int32) < 0 ∨ 1 ≤ (0 : Int32).toNatClampNeg) by decide) d_L_moves_7 (fun H locs hP hD hS => ?_)
  have hw : kb_K D kcl (tyH cO G) (wH o cO (vp_updL f 0 r.toInt64) A G M') s (va_A (wH o cO f A G M0) sz) H locs := ⟨hw.1, hP, hD, hS, hw.2.2.2.2⟩
  refine lv_goto (tgt := 14) hx hb d_L_moves_8 (by decide) ?_
  refine lv_iconst (v := 0) hx hb d_L_moves_14 (by decide) ?_
  exact kb_iret hx hb hr hw hlocks d_L_moves_15
set_option maxHeartbeats 4000000 in
set_option maxRecDepth 100000 in
theorem t0_L_moves (l : Launch) (hlt : l.stackTraces = false) (D : va_G) (o : Nat) (cO : ClassId) (f : Nat → Int64) (A : Nat → Nat) (G : Nat → ClassId) (M0 : Nat → Nat → Int32) (M' : Nat → Nat → Int32) (sz : Nat) (h : x_P_moves M0 = some (2, M')) : Met l y_L_moves (Cond.codeWith y_L_moves method_9_code 3 (some .int) [(0, 8, 11, 26)] :: wsH) { frames := 10, cells := 1, slots := 6, locals := 160 } (va_Pc [.ref (A 0), .ref o] (kb_pre D kcl (tyH cO G) (wH o cO f A G M0) (eH (va_A (wH o cO f A G M0) sz)) sz)) (va_Qi (fun r' (_ : Unit) => r' = 1) (fun _ t => kb_post D kcl (tyH cO G) (wH o cO f A G M0) (wH o cO f A G M') sz t) (va_A (wH o cO f A G M0) sz)) 1 6 (va_A (wH o cO f A G M0) sz) := by
  refine va_MetW (cc := b_L_moves) (maxL := 3) (ret := (some .int)) (hh := [(0, 8, 11, 26)]) (by decide) rfl ?_
  intro p e s m args below meth c s₁ B hml hv
  obtain ⟨rfl, hpre⟩ := hv
  obtain ⟨hw, hN⟩ := kb_enter hpre
  have hx := B.exec
  have hb := B.bytes
  have hr := B.returns
  have hts := atoms_spec (ws := (Cond.codeWith y_L_moves method_9_code 3 (some .int) [(0, 8, 11, 26)] :: wsH)) B.pre
  have hth : ∀ w ∈ wsH, w.before ([.ref (A 0), .ref o] : List Value).toArray s = true := fun w h => hts w (List.mem_cons_of_mem _ h)
  have htl : ∀ w ∈ wsL, w.before ([.ref (A 0), .ref o] : List Value).toArray s = true := fun w h => hth w (List.mem_append_left _ h)
  have htw : ∀ w ∈ wsC, w.before ([.ref (A 0), .ref o] : List Value).toArray s = true := fun w h => hth w (List.mem_append_right _ (List.mem_append_left _ h))
  have hown : s.vm.findClass "PileLiftsLaw" = some m.cls := findClass_of_methodNamed B.named
  have hlocks := B.notSynchronized
  have hl := lv_entry ([.ref (A 0), .ref o]) (n := 3) (Nat.le_of_ble_eq_true rfl)
  rw [lg_entry_eq]
  generalize (lg_sl ([.ref (A 0), .ref o]) ++ List.replicate (3 - (lg_sl ([.ref (A 0), .ref o])).length) Slot.unset).toArray = ls at hl ⊢
  have hl : lv_has ls 3 [(0, .ref (A 0)), (1, .ref o)] := hl
  have htab := vx_table (x := y_L_moves) B (hts _ List.mem_cons_self)
  refine lv_aload_n hx hb d_L_moves_0 rfl (lv_at hl 1 rfl) ?_
  refine lv_iconst (v := 0) hx hb d_L_moves_1 (by decide) ?_
  refine lv_aload_n hx hb d_L_moves_2 rfl (lv_at hl 0 rfl) ?_
  have hC : [1, 2, 3, 4, 5, 6, 7, 8, 9, 10, 11, 12, 13, 14, 15, 16, 17].map (fun i => (wH o cO f A G M0)[i]?) = (wC A G M0).map some := rfl
  have hF := va_free (wc := wC A G M0) hw.2.2.1 hw.2.2.2.1 hw.2.2.2.2 [1, 2, 3, 4, 5, 6, 7, 8, 9, 10, 11, 12, 13, 14, 15, 16, 17] hC
  refine vx_calli (vx_runV (As := []) (rest := [.int 0, .ref o]) ⟨hx, hb, hml, hown, hth⟩ (xc_P_moves l hlt D A G M0 _ _ s.heap.size h) ⟨callB_of 0 hth (wsH_X mC_189) rfl rfl rfl (htw _ mC_0) (htl _ mL_35) q_P_moves ⟨by show 9 + 1 ≤ 10; omega, by show 8 + (1 + 11) + 140 ≤ 160; omega⟩, htw _ mC_187, htw _ mC_188⟩ (kb_preVh (NN' := eeC (va_A (wC A G M0) s.heap.size)) eeC_blind hw [1, 2, 3, 4, 5, 6, 7, 8, 9, 10, 11, 12, 13, 14, 15, 16, 17] [1, 2, 3, 4, 5, 6, 7, 8, 9, 10, 11, 12, 13] rfl rfl (by decide) rfl (fun U hU hW => eeC_call hN.1 hW hU hw.2.2.2.1 hF) 0 (wC_0 A G _) rfl) rfl rfl hl.1 rfl (lv_room (Nat.le_of_ble_eq_true rfl)) d_L_moves_3 ⟨Nat.le_refl 1, Nat.le_refl 6⟩) hw.2.2.2.1 (fun q _ h => hF q h) hF (fun q _ h => hF q h) (fun E ce q9 u t H1 locs1 ht hvm hp hB hz hk hS hcell hv hcl => ?_) (fun r9 u t H1 locs1 ht hvm hp => hp.elim)
  obtain ⟨rfl, hpost⟩ := hB
  have hw : kb_K D kcl (tyH cO G) (wH o cO f A G M') s (va_A (wH o cO f A G M0) sz) H1 locs1 := kb_behind (wr := [(o, .inl (cO, 1, .inr (.inl f)))]) (w1 := wC A G M') hw [1, 2, 3, 4, 5, 6, 7, 8, 9, 10, 11, 12, 13, 14, 15, 16, 17] [0] hC rfl (by decide) (by decide) rfl ht hpost hk hS
  refine vx_catch (name := kb_ex 2) hown [] ⟨0, 8, 11, 26⟩ [] htab (fun z hz => by cases hz) (by decide) (by decide) (htl _ mL_18) (va_Nw.use rfl (hN.1.2.1 _ (List.mem_of_getElem? (i := 4) rfl))) hcell hv hcl ?_
  refine lv_astore_n (lv' := [(2, .ref q9), (0, .ref (A 0)), (1, .ref o)]) hx hb d_L_moves_11 rfl hl (by decide) rfl (fun ls hl => ?_)
  refine lv_iconst (v := 1) hx hb d_L_moves_12 (by decide) ?_
  refine W.cs (cells' := 1) (slots' := 6) rfl rfl ?_
  exact kb_iret hx hb hr hw hlocks d_L_moves_13
set_option maxHeartbeats 4000000 in
set_option maxRecDepth 100000 in
theorem n_L_move (l : Launch) (D : va_G) (o : Nat) (cO : ClassId) (f : Nat → Int64) (A : Nat → Nat) (G : Nat → ClassId) (x1 x2 : Int32) (M0 : Nat → Nat → Int32) (r : Int32) (M' : Nat → Nat → Int32) (sz : Nat) (h : f_P_move x1 x2 M0 = some (r, M')) : Met l y_L_move (Cond.codeWith y_L_move method_10_code 5 (some .int) [(0, 10, 13, 19), (0, 10, 17, 26), (0, 10, 21, 13)] :: wsH) { frames := 2, cells := 0, slots := 0, locals := 44 } (va_Pc [.ref (A 0), .int x1, .int x2, .ref o] (kb_pre D kcl (tyH cO G) (wH o cO f A G M0) nnC sz)) (va_Qi (fun r' (_ : Unit) => r' = 0) (fun _ t => kb_post D kcl (tyH cO G) (wH o cO f A G M0) (wH o cO (vp_updL f 0 r.toInt64) A G M') sz t) (va_A (wH o cO f A G M0) sz)) 0 0 (va_A (wH o cO f A G M0) sz) := by
  refine va_MetW (cc := b_L_move) (maxL := 5) (ret := (some .int)) (hh := [(0, 10, 13, 19), (0, 10, 17, 26), (0, 10, 21, 13)]) (by decide) rfl ?_
  intro p e s m args below meth c s₁ B hml hv
  obtain ⟨rfl, hpre⟩ := hv
  obtain ⟨hw, hN⟩ := kb_enter hpre
  have hx := B.exec
  have hb := B.bytes
  have hr := B.returns
  have hts := atoms_spec (ws := (Cond.codeWith y_L_move method_10_code 5 (some .int) [(0, 10, 13, 19), (0, 10, 17, 26), (0, 10, 21, 13)] :: wsH)) B.pre
  have hth : ∀ w ∈ wsH, w.before ([.ref (A 0), .int x1, .int x2, .ref o] : List Value).toArray s = true := fun w h => hts w (List.mem_cons_of_mem _ h)
  have htl : ∀ w ∈ wsL, w.before ([.ref (A 0), .int x1, .int x2, .ref o] : List Value).toArray s = true := fun w h => hth w (List.mem_append_left _ h)
  have htw : ∀ w ∈ wsC, w.before ([.ref (A 0), .int x1, .int x2, .ref o] : List Value).toArray s = true := fun w h => hth w (List.mem_append_right _ (List.mem_append_left _ h))
  have hown : s.vm.findClass "PileLiftsLaw" = some m.cls := findClass_of_methodNamed B.named
  have hlocks := B.notSynchronized
  have hl := lv_entry ([.ref (A 0), .int x1, .int x2, .ref o]) (n := 5) (Nat.le_of_ble_eq_true rfl)
  rw [lg_entry_eq]
  generalize (lg_sl ([.ref (A 0), .int x1, .int x2, .ref o]) ++ List.replicate (5 - (lg_sl ([.ref (A 0), .int x1, .int x2, .ref o])).length) Slot.unset).toArray = ls at hl ⊢
  have hl : lv_has ls 5 [(0, .ref (A 0)), (1, .int x1), (2, .int x2), (3, .ref o)] := hl
  refine lv_aload_n hx hb d_L_move_0 rfl (lv_at hl 3 rfl) ?_
  refine lv_iconst (v := 0) hx hb d_L_move_1 (by decide) ?_
  refine lv_aload_n hx hb d_L_move_2 rfl (lv_at hl 0 rfl) ?_
  refine lv_iload_n hx hb d_L_move_3 rfl (lv_at hl 1 rfl) ?_
  refine lv_iload_n hx hb d_L_move_4 rfl (lv_at hl 2 rfl) ?_
  refine kb_calli (wc := wC A G M0) (wr := [(o, .inl (cO, 1, .inr (.inl f)))]) (w1 := wC A G M') (ws' := (wH o cO f A G M')) (va_runV (As := [.int x1, .int x2]) (rest := [.int 0, .ref o]) ⟨hx, hb, hml, hown, hth⟩ (c_P_move l D A G x1 x2 M0 _ _ s.heap.size h) ⟨callB_of 2 hth (wsH_C mC_195) rfl rfl rfl (htw _ mC_0) (htl _ mL_39) q_P_move ⟨by show 1 + 1 ≤ 2; omega, by show 8 + (3 + 11) + 22 ≤ 44; omega⟩, htw _ mC_193, htw _ mC_194⟩ (kb_preVh nnC_b hw [1, 2, 3, 4, 5, 6, 7, 8, 9, 10, 11, 12, 13, 14, 15, 16, 17] [1, 2, 3, 4, 5, 6, 7, 8, 9, 10, 11, 12, 13] rfl rfl (by decide) rfl (fun U hU hW => nnC_warm s U hW hN) 0 (wC_0 A G _) rfl) rfl rfl hl.1 rfl (lv_room (Nat.le_of_ble_eq_true rfl)) d_L_move_5 ⟨Nat.zero_le _, Nat.zero_le _⟩) hw [1, 2, 3, 4, 5, 6, 7, 8, 9, 10, 11, 12, 13, 14, 15, 16, 17] [0] rfl rfl (by decide) (by decide) rfl (fun H locs hw => ?_)
  refine W.cs (cells' := 0) (slots' := 0) rfl rfl ?_
  refine lv_i2l (v := r.toInt64) hx hb d_L_move_8 rfl ?_
  refine va_last hx hb hw.1 hw.2.1 hw.2.2.1 hw.2.2.2.1 0 0 rfl rfl (show ¬ ((0 : Int32) < 0 ∨ 1 ≤ (0 : Int32).toNatClampNeg) by decide) d_L_move_9 (fun H locs hP hD hS => ?_)
  have hw : kb_K D kcl (tyH cO G) (wH o cO (vp_updL f 0 r.toInt64) A G M') s (va_A (wH o cO f A G M0) sz) H locs := ⟨hw.1, hP, hD, hS, hw.2.2.2.2⟩
  refine lv_goto (tgt := 25) hx hb d_L_move_10 (by decide) ?_
  refine lv_iconst (v := 0) hx hb d_L_move_25 (by decide) ?_
  exact kb_iret hx hb hr hw hlocks d_L_move_26
set_option maxHeartbeats 4000000 in
set_option maxRecDepth 100000 in
theorem t0_L_move (l : Launch) (hlt : l.stackTraces = false) (D : va_G) (o : Nat) (cO : ClassId) (f : Nat → Int64) (A : Nat → Nat) (G : Nat → ClassId) (x1 x2 : Int32) (M0 : Nat → Nat → Int32) (M' : Nat → Nat → Int32) (sz : Nat) (h : x_P_move x1 x2 M0 = some (1, M')) : Met l y_L_move (Cond.codeWith y_L_move method_10_code 5 (some .int) [(0, 10, 13, 19), (0, 10, 17, 26), (0, 10, 21, 13)] :: wsH) { frames := 10, cells := 1, slots := 6, locals := 162 } (va_Pc [.ref (A 0), .int x1, .int x2, .ref o] (kb_pre D kcl (tyH cO G) (wH o cO f A G M0) (eH (va_A (wH o cO f A G M0) sz)) sz)) (va_Qi (fun r' (_ : Unit) => r' = 1) (fun _ t => kb_post D kcl (tyH cO G) (wH o cO f A G M0) (wH o cO f A G M') sz t) (va_A (wH o cO f A G M0) sz)) 1 6 (va_A (wH o cO f A G M0) sz) := by
  refine va_MetW (cc := b_L_move) (maxL := 5) (ret := (some .int)) (hh := [(0, 10, 13, 19), (0, 10, 17, 26), (0, 10, 21, 13)]) (by decide) rfl ?_
  intro p e s m args below meth c s₁ B hml hv
  obtain ⟨rfl, hpre⟩ := hv
  obtain ⟨hw, hN⟩ := kb_enter hpre
  have hx := B.exec
  have hb := B.bytes
  have hr := B.returns
  have hts := atoms_spec (ws := (Cond.codeWith y_L_move method_10_code 5 (some .int) [(0, 10, 13, 19), (0, 10, 17, 26), (0, 10, 21, 13)] :: wsH)) B.pre
  have hth : ∀ w ∈ wsH, w.before ([.ref (A 0), .int x1, .int x2, .ref o] : List Value).toArray s = true := fun w h => hts w (List.mem_cons_of_mem _ h)
  have htl : ∀ w ∈ wsL, w.before ([.ref (A 0), .int x1, .int x2, .ref o] : List Value).toArray s = true := fun w h => hth w (List.mem_append_left _ h)
  have htw : ∀ w ∈ wsC, w.before ([.ref (A 0), .int x1, .int x2, .ref o] : List Value).toArray s = true := fun w h => hth w (List.mem_append_right _ (List.mem_append_left _ h))
  have hown : s.vm.findClass "PileLiftsLaw" = some m.cls := findClass_of_methodNamed B.named
  have hlocks := B.notSynchronized
  have hl := lv_entry ([.ref (A 0), .int x1, .int x2, .ref o]) (n := 5) (Nat.le_of_ble_eq_true rfl)
  rw [lg_entry_eq]
  generalize (lg_sl ([.ref (A 0), .int x1, .int x2, .ref o]) ++ List.replicate (5 - (lg_sl ([.ref (A 0), .int x1, .int x2, .ref o])).length) Slot.unset).toArray = ls at hl ⊢
  have hl : lv_has ls 5 [(0, .ref (A 0)), (1, .int x1), (2, .int x2), (3, .ref o)] := hl
  have htab := vx_table (x := y_L_move) B (hts _ List.mem_cons_self)
  refine lv_aload_n hx hb d_L_move_0 rfl (lv_at hl 3 rfl) ?_
  refine lv_iconst (v := 0) hx hb d_L_move_1 (by decide) ?_
  refine lv_aload_n hx hb d_L_move_2 rfl (lv_at hl 0 rfl) ?_
  refine lv_iload_n hx hb d_L_move_3 rfl (lv_at hl 1 rfl) ?_
  refine lv_iload_n hx hb d_L_move_4 rfl (lv_at hl 2 rfl) ?_
  have hC : [1, 2, 3, 4, 5, 6, 7, 8, 9, 10, 11, 12, 13, 14, 15, 16, 17].map (fun i => (wH o cO f A G M0)[i]?) = (wC A G M0).map some := rfl
  have hF := va_free (wc := wC A G M0) hw.2.2.1 hw.2.2.2.1 hw.2.2.2.2 [1, 2, 3, 4, 5, 6, 7, 8, 9, 10, 11, 12, 13, 14, 15, 16, 17] hC
  refine vx_calli (vx_runV (As := [.int x1, .int x2]) (rest := [.int 0, .ref o]) ⟨hx, hb, hml, hown, hth⟩ (xc_P_move l hlt D A G x1 x2 M0 _ _ s.heap.size h) ⟨callB_of 2 hth (wsH_X mC_195) rfl rfl rfl (htw _ mC_0) (htl _ mL_39) q_P_move ⟨by show 9 + 1 ≤ 10; omega, by show 8 + (3 + 11) + 140 ≤ 162; omega⟩, htw _ mC_193, htw _ mC_194⟩ (kb_preVh (NN' := eeC (va_A (wC A G M0) s.heap.size)) eeC_blind hw [1, 2, 3, 4, 5, 6, 7, 8, 9, 10, 11, 12, 13, 14, 15, 16, 17] [1, 2, 3, 4, 5, 6, 7, 8, 9, 10, 11, 12, 13] rfl rfl (by decide) rfl (fun U hU hW => eeC_call hN.1 hW hU hw.2.2.2.1 hF) 0 (wC_0 A G _) rfl) rfl rfl hl.1 rfl (lv_room (Nat.le_of_ble_eq_true rfl)) d_L_move_5 ⟨Nat.le_refl 1, Nat.le_refl 6⟩) hw.2.2.2.1 (fun q _ h => hF q h) hF (fun q _ h => hF q h) (fun E ce q9 u t H1 locs1 ht hvm hp hB hz hk hS hcell hv hcl => ?_) (fun r9 u t H1 locs1 ht hvm hp => hp.elim)
  obtain ⟨rfl, hpost⟩ := hB
  have hw : kb_K D kcl (tyH cO G) (wH o cO f A G M') s (va_A (wH o cO f A G M0) sz) H1 locs1 := kb_behind (wr := [(o, .inl (cO, 1, .inr (.inl f)))]) (w1 := wC A G M') hw [1, 2, 3, 4, 5, 6, 7, 8, 9, 10, 11, 12, 13, 14, 15, 16, 17] [0] hC rfl (by decide) (by decide) rfl ht hpost hk hS
  refine vx_catch (name := kb_ex 1) hown [] ⟨0, 10, 13, 19⟩ [⟨0, 10, 17, 26⟩, ⟨0, 10, 21, 13⟩] htab (fun z hz => by cases hz) (by decide) (by decide) (htl _ mL_12) (va_Nw.use rfl (hN.1.2.1 _ (List.mem_of_getElem? (i := 3) rfl))) hcell hv hcl ?_
  refine lv_astore (lv' := [(4, .ref q9), (0, .ref (A 0)), (1, .int x1), (2, .int x2), (3, .ref o)]) hx hb d_L_move_13 hl (by decide) rfl (fun ls hl => ?_)
  refine lv_iconst (v := 1) hx hb d_L_move_15 (by decide) ?_
  refine W.cs (cells' := 1) (slots' := 6) rfl rfl ?_
  exact kb_iret hx hb hr hw hlocks d_L_move_16
set_option maxHeartbeats 4000000 in
set_option maxRecDepth 100000 in
theorem t1_L_move (l : Launch) (hlt : l.stackTraces = false) (D : va_G) (o : Nat) (cO : ClassId) (f : Nat → Int64) (A : Nat → Nat) (G : Nat → ClassId) (x1 x2 : Int32) (M0 : Nat → Nat → Int32) (M' : Nat → Nat → Int32) (sz : Nat) (h : x_P_move x1 x2 M0 = some (2, M')) : Met l y_L_move (Cond.codeWith y_L_move method_10_code 5 (some .int) [(0, 10, 13, 19), (0, 10, 17, 26), (0, 10, 21, 13)] :: wsH) { frames := 10, cells := 1, slots := 6, locals := 162 } (va_Pc [.ref (A 0), .int x1, .int x2, .ref o] (kb_pre D kcl (tyH cO G) (wH o cO f A G M0) (eH (va_A (wH o cO f A G M0) sz)) sz)) (va_Qi (fun r' (_ : Unit) => r' = 2) (fun _ t => kb_post D kcl (tyH cO G) (wH o cO f A G M0) (wH o cO f A G M') sz t) (va_A (wH o cO f A G M0) sz)) 1 6 (va_A (wH o cO f A G M0) sz) := by
  refine va_MetW (cc := b_L_move) (maxL := 5) (ret := (some .int)) (hh := [(0, 10, 13, 19), (0, 10, 17, 26), (0, 10, 21, 13)]) (by decide) rfl ?_
  intro p e s m args below meth c s₁ B hml hv
  obtain ⟨rfl, hpre⟩ := hv
  obtain ⟨hw, hN⟩ := kb_enter hpre
  have hx := B.exec
  have hb := B.bytes
  have hr := B.returns
  have hts := atoms_spec (ws := (Cond.codeWith y_L_move method_10_code 5 (some .int) [(0, 10, 13, 19), (0, 10, 17, 26), (0, 10, 21, 13)] :: wsH)) B.pre
  have hth : ∀ w ∈ wsH, w.before ([.ref (A 0), .int x1, .int x2, .ref o] : List Value).toArray s = true := fun w h => hts w (List.mem_cons_of_mem _ h)
  have htl : ∀ w ∈ wsL, w.before ([.ref (A 0), .int x1, .int x2, .ref o] : List Value).toArray s = true := fun w h => hth w (List.mem_append_left _ h)
  have htw : ∀ w ∈ wsC, w.before ([.ref (A 0), .int x1, .int x2, .ref o] : List Value).toArray s = true := fun w h => hth w (List.mem_append_right _ (List.mem_append_left _ h))
  have hown : s.vm.findClass "PileLiftsLaw" = some m.cls := findClass_of_methodNamed B.named
  have hlocks := B.notSynchronized
  have hl := lv_entry ([.ref (A 0), .int x1, .int x2, .ref o]) (n := 5) (Nat.le_of_ble_eq_true rfl)
  rw [lg_entry_eq]
  generalize (lg_sl ([.ref (A 0), .int x1, .int x2, .ref o]) ++ List.replicate (5 - (lg_sl ([.ref (A 0), .int x1, .int x2, .ref o])).length) Slot.unset).toArray = ls at hl ⊢
  have hl : lv_has ls 5 [(0, .ref (A 0)), (1, .int x1), (2, .int x2), (3, .ref o)] := hl
  have htab := vx_table (x := y_L_move) B (hts _ List.mem_cons_self)
  refine lv_aload_n hx hb d_L_move_0 rfl (lv_at hl 3 rfl) ?_
  refine lv_iconst (v := 0) hx hb d_L_move_1 (by decide) ?_
  refine lv_aload_n hx hb d_L_move_2 rfl (lv_at hl 0 rfl) ?_
  refine lv_iload_n hx hb d_L_move_3 rfl (lv_at hl 1 rfl) ?_
  refine lv_iload_n hx hb d_L_move_4 rfl (lv_at hl 2 rfl) ?_
  have hC : [1, 2, 3, 4, 5, 6, 7, 8, 9, 10, 11, 12, 13, 14, 15, 16, 17].map (fun i => (wH o cO f A G M0)[i]?) = (wC A G M0).map some := rfl
  have hF := va_free (wc := wC A G M0) hw.2.2.1 hw.2.2.2.1 hw.2.2.2.2 [1, 2, 3, 4, 5, 6, 7, 8, 9, 10, 11, 12, 13, 14, 15, 16, 17] hC
  refine vx_calli (vx_runV (As := [.int x1, .int x2]) (rest := [.int 0, .ref o]) ⟨hx, hb, hml, hown, hth⟩ (xc_P_move l hlt D A G x1 x2 M0 _ _ s.heap.size h) ⟨callB_of 2 hth (wsH_X mC_195) rfl rfl rfl (htw _ mC_0) (htl _ mL_39) q_P_move ⟨by show 9 + 1 ≤ 10; omega, by show 8 + (3 + 11) + 140 ≤ 162; omega⟩, htw _ mC_193, htw _ mC_194⟩ (kb_preVh (NN' := eeC (va_A (wC A G M0) s.heap.size)) eeC_blind hw [1, 2, 3, 4, 5, 6, 7, 8, 9, 10, 11, 12, 13, 14, 15, 16, 17] [1, 2, 3, 4, 5, 6, 7, 8, 9, 10, 11, 12, 13] rfl rfl (by decide) rfl (fun U hU hW => eeC_call hN.1 hW hU hw.2.2.2.1 hF) 0 (wC_0 A G _) rfl) rfl rfl hl.1 rfl (lv_room (Nat.le_of_ble_eq_true rfl)) d_L_move_5 ⟨Nat.le_refl 1, Nat.le_refl 6⟩) hw.2.2.2.1 (fun q _ h => hF q h) hF (fun q _ h => hF q h) (fun E ce q9 u t H1 locs1 ht hvm hp hB hz hk hS hcell hv hcl => ?_) (fun r9 u t H1 locs1 ht hvm hp => hp.elim)
  obtain ⟨rfl, hpost⟩ := hB
  have hw : kb_K D kcl (tyH cO G) (wH o cO f A G M') s (va_A (wH o cO f A G M0) sz) H1 locs1 := kb_behind (wr := [(o, .inl (cO, 1, .inr (.inl f)))]) (w1 := wC A G M') hw [1, 2, 3, 4, 5, 6, 7, 8, 9, 10, 11, 12, 13, 14, 15, 16, 17] [0] hC rfl (by decide) (by decide) rfl ht hpost hk hS
  refine vx_catch (name := kb_ex 2) hown [⟨0, 10, 13, 19⟩] ⟨0, 10, 17, 26⟩ [⟨0, 10, 21, 13⟩] htab (fun z hz => by
    rcases List.mem_singleton.mp hz with rfl
    · exact Or.inr ⟨by decide, _, htl _ mL_12, hN.2.1⟩) (by decide) (by decide) (htl _ mL_18) (va_Nw.use rfl (hN.1.2.1 _ (List.mem_of_getElem? (i := 4) rfl))) hcell hv hcl ?_
  refine lv_astore (lv' := [(4, .ref q9), (0, .ref (A 0)), (1, .int x1), (2, .int x2), (3, .ref o)]) hx hb d_L_move_17 hl (by decide) rfl (fun ls hl => ?_)
  refine lv_iconst (v := 2) hx hb d_L_move_19 (by decide) ?_
  refine W.cs (cells' := 1) (slots' := 6) rfl rfl ?_
  exact kb_iret hx hb hr hw hlocks d_L_move_20
set_option maxHeartbeats 4000000 in
set_option maxRecDepth 100000 in
theorem t2_L_move (l : Launch) (hlt : l.stackTraces = false) (D : va_G) (o : Nat) (cO : ClassId) (f : Nat → Int64) (A : Nat → Nat) (G : Nat → ClassId) (x1 x2 : Int32) (M0 : Nat → Nat → Int32) (M' : Nat → Nat → Int32) (sz : Nat) (h : x_P_move x1 x2 M0 = some (3, M')) : Met l y_L_move (Cond.codeWith y_L_move method_10_code 5 (some .int) [(0, 10, 13, 19), (0, 10, 17, 26), (0, 10, 21, 13)] :: wsH) { frames := 10, cells := 1, slots := 6, locals := 162 } (va_Pc [.ref (A 0), .int x1, .int x2, .ref o] (kb_pre D kcl (tyH cO G) (wH o cO f A G M0) (eH (va_A (wH o cO f A G M0) sz)) sz)) (va_Qi (fun r' (_ : Unit) => r' = 3) (fun _ t => kb_post D kcl (tyH cO G) (wH o cO f A G M0) (wH o cO f A G M') sz t) (va_A (wH o cO f A G M0) sz)) 1 6 (va_A (wH o cO f A G M0) sz) := by
  refine va_MetW (cc := b_L_move) (maxL := 5) (ret := (some .int)) (hh := [(0, 10, 13, 19), (0, 10, 17, 26), (0, 10, 21, 13)]) (by decide) rfl ?_
  intro p e s m args below meth c s₁ B hml hv
  obtain ⟨rfl, hpre⟩ := hv
  obtain ⟨hw, hN⟩ := kb_enter hpre
  have hx := B.exec
  have hb := B.bytes
  have hr := B.returns
  have hts := atoms_spec (ws := (Cond.codeWith y_L_move method_10_code 5 (some .int) [(0, 10, 13, 19), (0, 10, 17, 26), (0, 10, 21, 13)] :: wsH)) B.pre
  have hth : ∀ w ∈ wsH, w.before ([.ref (A 0), .int x1, .int x2, .ref o] : List Value).toArray s = true := fun w h => hts w (List.mem_cons_of_mem _ h)
  have htl : ∀ w ∈ wsL, w.before ([.ref (A 0), .int x1, .int x2, .ref o] : List Value).toArray s = true := fun w h => hth w (List.mem_append_left _ h)
  have htw : ∀ w ∈ wsC, w.before ([.ref (A 0), .int x1, .int x2, .ref o] : List Value).toArray s = true := fun w h => hth w (List.mem_append_right _ (List.mem_append_left _ h))
  have hown : s.vm.findClass "PileLiftsLaw" = some m.cls := findClass_of_methodNamed B.named
  have hlocks := B.notSynchronized
  have hl := lv_entry ([.ref (A 0), .int x1, .int x2, .ref o]) (n := 5) (Nat.le_of_ble_eq_true rfl)
  rw [lg_entry_eq]
  generalize (lg_sl ([.ref (A 0), .int x1, .int x2, .ref o]) ++ List.replicate (5 - (lg_sl ([.ref (A 0), .int x1, .int x2, .ref o])).length) Slot.unset).toArray = ls at hl ⊢
  have hl : lv_has ls 5 [(0, .ref (A 0)), (1, .int x1), (2, .int x2), (3, .ref o)] := hl
  have htab := vx_table (x := y_L_move) B (hts _ List.mem_cons_self)
  refine lv_aload_n hx hb d_L_move_0 rfl (lv_at hl 3 rfl) ?_
  refine lv_iconst (v := 0) hx hb d_L_move_1 (by decide) ?_
  refine lv_aload_n hx hb d_L_move_2 rfl (lv_at hl 0 rfl) ?_
  refine lv_iload_n hx hb d_L_move_3 rfl (lv_at hl 1 rfl) ?_
  refine lv_iload_n hx hb d_L_move_4 rfl (lv_at hl 2 rfl) ?_
  have hC : [1, 2, 3, 4, 5, 6, 7, 8, 9, 10, 11, 12, 13, 14, 15, 16, 17].map (fun i => (wH o cO f A G M0)[i]?) = (wC A G M0).map some := rfl
  have hF := va_free (wc := wC A G M0) hw.2.2.1 hw.2.2.2.1 hw.2.2.2.2 [1, 2, 3, 4, 5, 6, 7, 8, 9, 10, 11, 12, 13, 14, 15, 16, 17] hC
  refine vx_calli (vx_runV (As := [.int x1, .int x2]) (rest := [.int 0, .ref o]) ⟨hx, hb, hml, hown, hth⟩ (xc_P_move l hlt D A G x1 x2 M0 _ _ s.heap.size h) ⟨callB_of 2 hth (wsH_X mC_195) rfl rfl rfl (htw _ mC_0) (htl _ mL_39) q_P_move ⟨by show 9 + 1 ≤ 10; omega, by show 8 + (3 + 11) + 140 ≤ 162; omega⟩, htw _ mC_193, htw _ mC_194⟩ (kb_preVh (NN' := eeC (va_A (wC A G M0) s.heap.size)) eeC_blind hw [1, 2, 3, 4, 5, 6, 7, 8, 9, 10, 11, 12, 13, 14, 15, 16, 17] [1, 2, 3, 4, 5, 6, 7, 8, 9, 10, 11, 12, 13] rfl rfl (by decide) rfl (fun U hU hW => eeC_call hN.1 hW hU hw.2.2.2.1 hF) 0 (wC_0 A G _) rfl) rfl rfl hl.1 rfl (lv_room (Nat.le_of_ble_eq_true rfl)) d_L_move_5 ⟨Nat.le_refl 1, Nat.le_refl 6⟩) hw.2.2.2.1 (fun q _ h => hF q h) hF (fun q _ h => hF q h) (fun E ce q9 u t H1 locs1 ht hvm hp hB hz hk hS hcell hv hcl => ?_) (fun r9 u t H1 locs1 ht hvm hp => hp.elim)
  obtain ⟨rfl, hpost⟩ := hB
  have hw : kb_K D kcl (tyH cO G) (wH o cO f A G M') s (va_A (wH o cO f A G M0) sz) H1 locs1 := kb_behind (wr := [(o, .inl (cO, 1, .inr (.inl f)))]) (w1 := wC A G M') hw [1, 2, 3, 4, 5, 6, 7, 8, 9, 10, 11, 12, 13, 14, 15, 16, 17] [0] hC rfl (by decide) (by decide) rfl ht hpost hk hS
  refine vx_catch (name := kb_ex 3) hown [⟨0, 10, 13, 19⟩, ⟨0, 10, 17, 26⟩] ⟨0, 10, 21, 13⟩ [] htab (fun z hz => by
    rcases (by simpa using hz : z = ⟨0, 10, 13, 19⟩ ∨ z = ⟨0, 10, 17, 26⟩) with rfl | rfl
    · exact Or.inr ⟨by decide, _, htl _ mL_12, hN.2.2.1⟩
    · exact Or.inr ⟨by decide, _, htl _ mL_18, hN.2.2.2.1⟩) (by decide) (by decide) (htl _ mL_7) (va_Nw.use rfl (hN.1.2.1 _ (List.mem_of_getElem? (i := 5) rfl))) hcell hv hcl ?_
  refine lv_astore (lv' := [(4, .ref q9), (0, .ref (A 0)), (1, .int x1), (2, .int x2), (3, .ref o)]) hx hb d_L_move_21 hl (by decide) rfl (fun ls hl => ?_)
  refine lv_iconst (v := 3) hx hb d_L_move_23 (by decide) ?_
  refine W.cs (cells' := 1) (slots' := 6) rfl rfl ?_
  exact kb_iret hx hb hr hw hlocks d_L_move_24
set_option maxHeartbeats 4000000 in
set_option maxRecDepth 100000 in
theorem n_L_replay (l : Launch) (D : va_G) (o : Nat) (cO : ClassId) (f : Nat → Int64) (A : Nat → Nat) (G : Nat → ClassId) (x1 : Int32) (M0 : Nat → Nat → Int32) (r : Int32) (M' : Nat → Nat → Int32) (sz : Nat) (h : f_P_replay x1 M0 = some (r, M')) : Met l y_L_replay (Cond.codeWith y_L_replay method_11_code 4 (some .int) [(0, 9, 12, 26), (0, 9, 15, 13)] :: wsH) { frames := 4, cells := 0, slots := 0, locals := 89 } (va_Pc [.ref (A 0), .int x1, .ref o] (kb_pre D kcl (tyH cO G) (wH o cO f A G M0) nnC sz)) (va_Qi (fun r' (_ : Unit) => r' = 0) (fun _ t => kb_post D kcl (tyH cO G) (wH o cO f A G M0) (wH o cO (vp_updL f 0 r.toInt64) A G M') sz t) (va_A (wH o cO f A G M0) sz)) 0 0 (va_A (wH o cO f A G M0) sz) := by
  refine va_MetW (cc := b_L_replay) (maxL := 4) (ret := (some .int)) (hh := [(0, 9, 12, 26), (0, 9, 15, 13)]) (by decide) rfl ?_
  intro p e s m args below meth c s₁ B hml hv
  obtain ⟨rfl, hpre⟩ := hv
  obtain ⟨hw, hN⟩ := kb_enter hpre
  have hx := B.exec
  have hb := B.bytes
  have hr := B.returns
  have hts := atoms_spec (ws := (Cond.codeWith y_L_replay method_11_code 4 (some .int) [(0, 9, 12, 26), (0, 9, 15, 13)] :: wsH)) B.pre
  have hth : ∀ w ∈ wsH, w.before ([.ref (A 0), .int x1, .ref o] : List Value).toArray s = true := fun w h => hts w (List.mem_cons_of_mem _ h)
  have htl : ∀ w ∈ wsL, w.before ([.ref (A 0), .int x1, .ref o] : List Value).toArray s = true := fun w h => hth w (List.mem_append_left _ h)
  have htw : ∀ w ∈ wsC, w.before ([.ref (A 0), .int x1, .ref o] : List Value).toArray s = true := fun w h => hth w (List.mem_append_right _ (List.mem_append_left _ h))
  have hown : s.vm.findClass "PileLiftsLaw" = some m.cls := findClass_of_methodNamed B.named
  have hlocks := B.notSynchronized
  have hl := lv_entry ([.ref (A 0), .int x1, .ref o]) (n := 4) (Nat.le_of_ble_eq_true rfl)
  rw [lg_entry_eq]
  generalize (lg_sl ([.ref (A 0), .int x1, .ref o]) ++ List.replicate (4 - (lg_sl ([.ref (A 0), .int x1, .ref o])).length) Slot.unset).toArray = ls at hl ⊢
  have hl : lv_has ls 4 [(0, .ref (A 0)), (1, .int x1), (2, .ref o)] := hl
  refine lv_aload_n hx hb d_L_replay_0 rfl (lv_at hl 2 rfl) ?_
  refine lv_iconst (v := 0) hx hb d_L_replay_1 (by decide) ?_
  refine lv_aload_n hx hb d_L_replay_2 rfl (lv_at hl 0 rfl) ?_
  refine lv_iload_n hx hb d_L_replay_3 rfl (lv_at hl 1 rfl) ?_
  refine kb_calli (wc := wC A G M0) (wr := [(o, .inl (cO, 1, .inr (.inl f)))]) (w1 := wC A G M') (ws' := (wH o cO f A G M')) (va_runV (As := [.int x1]) (rest := [.int 0, .ref o]) ⟨hx, hb, hml, hown, hth⟩ (c_P_replay l D A G x1 M0 _ _ s.heap.size h) ⟨callB_of 1 hth (wsH_C mC_198) rfl rfl rfl (htw _ mC_0) (htl _ mL_43) q_P_replay ⟨by show 3 + 1 ≤ 4; omega, by show 8 + (2 + 11) + 68 ≤ 89; omega⟩, htw _ mC_196, htw _ mC_197⟩ (kb_preVh nnC_b hw [1, 2, 3, 4, 5, 6, 7, 8, 9, 10, 11, 12, 13, 14, 15, 16, 17] [1, 2, 3, 4, 5, 6, 7, 8, 9, 10, 11, 12, 13] rfl rfl (by decide) rfl (fun U hU hW => nnC_warm s U hW hN) 0 (wC_0 A G _) rfl) rfl rfl hl.1 rfl (lv_room (Nat.le_of_ble_eq_true rfl)) d_L_replay_4 ⟨Nat.zero_le _, Nat.zero_le _⟩) hw [1, 2, 3, 4, 5, 6, 7, 8, 9, 10, 11, 12, 13, 14, 15, 16, 17] [0] rfl rfl (by decide) (by decide) rfl (fun H locs hw => ?_)
  refine W.cs (cells' := 0) (slots' := 0) rfl rfl ?_
  refine lv_i2l (v := r.toInt64) hx hb d_L_replay_7 rfl ?_
  refine va_last hx hb hw.1 hw.2.1 hw.2.2.1 hw.2.2.2.1 0 0 rfl rfl (show ¬ ((0 : Int32) < 0 ∨ 1 ≤ (0 : Int32).toNatClampNeg) by decide) d_L_replay_8 (fun H locs hP hD hS => ?_)
  have hw : kb_K D kcl (tyH cO G) (wH o cO (vp_updL f 0 r.toInt64) A G M') s (va_A (wH o cO f A G M0) sz) H locs := ⟨hw.1, hP, hD, hS, hw.2.2.2.2⟩
  refine lv_goto (tgt := 18) hx hb d_L_replay_9 (by decide) ?_
  refine lv_iconst (v := 0) hx hb d_L_replay_18 (by decide) ?_
  exact kb_iret hx hb hr hw hlocks d_L_replay_19
set_option maxHeartbeats 4000000 in
set_option maxRecDepth 100000 in
theorem t0_L_replay (l : Launch) (hlt : l.stackTraces = false) (D : va_G) (o : Nat) (cO : ClassId) (f : Nat → Int64) (A : Nat → Nat) (G : Nat → ClassId) (x1 : Int32) (M0 : Nat → Nat → Int32) (M' : Nat → Nat → Int32) (sz : Nat) (h : x_P_replay x1 M0 = some (2, M')) : Met l y_L_replay (Cond.codeWith y_L_replay method_11_code 4 (some .int) [(0, 9, 12, 26), (0, 9, 15, 13)] :: wsH) { frames := 10, cells := 1, slots := 6, locals := 161 } (va_Pc [.ref (A 0), .int x1, .ref o] (kb_pre D kcl (tyH cO G) (wH o cO f A G M0) (eH (va_A (wH o cO f A G M0) sz)) sz)) (va_Qi (fun r' (_ : Unit) => r' = 1) (fun _ t => kb_post D kcl (tyH cO G) (wH o cO f A G M0) (wH o cO f A G M') sz t) (va_A (wH o cO f A G M0) sz)) 1 6 (va_A (wH o cO f A G M0) sz) := by
  refine va_MetW (cc := b_L_replay) (maxL := 4) (ret := (some .int)) (hh := [(0, 9, 12, 26), (0, 9, 15, 13)]) (by decide) rfl ?_
  intro p e s m args below meth c s₁ B hml hv
  obtain ⟨rfl, hpre⟩ := hv
  obtain ⟨hw, hN⟩ := kb_enter hpre
  have hx := B.exec
  have hb := B.bytes
  have hr := B.returns
  have hts := atoms_spec (ws := (Cond.codeWith y_L_replay method_11_code 4 (some .int) [(0, 9, 12, 26), (0, 9, 15, 13)] :: wsH)) B.pre
  have hth : ∀ w ∈ wsH, w.before ([.ref (A 0), .int x1, .ref o] : List Value).toArray s = true := fun w h => hts w (List.mem_cons_of_mem _ h)
  have htl : ∀ w ∈ wsL, w.before ([.ref (A 0), .int x1, .ref o] : List Value).toArray s = true := fun w h => hth w (List.mem_append_left _ h)
  have htw : ∀ w ∈ wsC, w.before ([.ref (A 0), .int x1, .ref o] : List Value).toArray s = true := fun w h => hth w (List.mem_append_right _ (List.mem_append_left _ h))
  have hown : s.vm.findClass "PileLiftsLaw" = some m.cls := findClass_of_methodNamed B.named
  have hlocks := B.notSynchronized
  have hl := lv_entry ([.ref (A 0), .int x1, .ref o]) (n := 4) (Nat.le_of_ble_eq_true rfl)
  rw [lg_entry_eq]
  generalize (lg_sl ([.ref (A 0), .int x1, .ref o]) ++ List.replicate (4 - (lg_sl ([.ref (A 0), .int x1, .ref o])).length) Slot.unset).toArray = ls at hl ⊢
  have hl : lv_has ls 4 [(0, .ref (A 0)), (1, .int x1), (2, .ref o)] := hl
  have htab := vx_table (x := y_L_replay) B (hts _ List.mem_cons_self)
  refine lv_aload_n hx hb d_L_replay_0 rfl (lv_at hl 2 rfl) ?_
  refine lv_iconst (v := 0) hx hb d_L_replay_1 (by decide) ?_
  refine lv_aload_n hx hb d_L_replay_2 rfl (lv_at hl 0 rfl) ?_
  refine lv_iload_n hx hb d_L_replay_3 rfl (lv_at hl 1 rfl) ?_
  have hC : [1, 2, 3, 4, 5, 6, 7, 8, 9, 10, 11, 12, 13, 14, 15, 16, 17].map (fun i => (wH o cO f A G M0)[i]?) = (wC A G M0).map some := rfl
  have hF := va_free (wc := wC A G M0) hw.2.2.1 hw.2.2.2.1 hw.2.2.2.2 [1, 2, 3, 4, 5, 6, 7, 8, 9, 10, 11, 12, 13, 14, 15, 16, 17] hC
  refine vx_calli (vx_runV (As := [.int x1]) (rest := [.int 0, .ref o]) ⟨hx, hb, hml, hown, hth⟩ (xc_P_replay l hlt D A G x1 M0 _ _ s.heap.size h) ⟨callB_of 1 hth (wsH_X mC_198) rfl rfl rfl (htw _ mC_0) (htl _ mL_43) q_P_replay ⟨by show 9 + 1 ≤ 10; omega, by show 8 + (2 + 11) + 140 ≤ 161; omega⟩, htw _ mC_196, htw _ mC_197⟩ (kb_preVh (NN' := eeC (va_A (wC A G M0) s.heap.size)) eeC_blind hw [1, 2, 3, 4, 5, 6, 7, 8, 9, 10, 11, 12, 13, 14, 15, 16, 17] [1, 2, 3, 4, 5, 6, 7, 8, 9, 10, 11, 12, 13] rfl rfl (by decide) rfl (fun U hU hW => eeC_call hN.1 hW hU hw.2.2.2.1 hF) 0 (wC_0 A G _) rfl) rfl rfl hl.1 rfl (lv_room (Nat.le_of_ble_eq_true rfl)) d_L_replay_4 ⟨Nat.le_refl 1, Nat.le_refl 6⟩) hw.2.2.2.1 (fun q _ h => hF q h) hF (fun q _ h => hF q h) (fun E ce q9 u t H1 locs1 ht hvm hp hB hz hk hS hcell hv hcl => ?_) (fun r9 u t H1 locs1 ht hvm hp => hp.elim)
  obtain ⟨rfl, hpost⟩ := hB
  have hw : kb_K D kcl (tyH cO G) (wH o cO f A G M') s (va_A (wH o cO f A G M0) sz) H1 locs1 := kb_behind (wr := [(o, .inl (cO, 1, .inr (.inl f)))]) (w1 := wC A G M') hw [1, 2, 3, 4, 5, 6, 7, 8, 9, 10, 11, 12, 13, 14, 15, 16, 17] [0] hC rfl (by decide) (by decide) rfl ht hpost hk hS
  refine vx_catch (name := kb_ex 2) hown [] ⟨0, 9, 12, 26⟩ [⟨0, 9, 15, 13⟩] htab (fun z hz => by cases hz) (by decide) (by decide) (htl _ mL_18) (va_Nw.use rfl (hN.1.2.1 _ (List.mem_of_getElem? (i := 4) rfl))) hcell hv hcl ?_
  refine lv_astore_n (lv' := [(3, .ref q9), (0, .ref (A 0)), (1, .int x1), (2, .ref o)]) hx hb d_L_replay_12 rfl hl (by decide) rfl (fun ls hl => ?_)
  refine lv_iconst (v := 1) hx hb d_L_replay_13 (by decide) ?_
  refine W.cs (cells' := 1) (slots' := 6) rfl rfl ?_
  exact kb_iret hx hb hr hw hlocks d_L_replay_14
set_option maxHeartbeats 4000000 in
set_option maxRecDepth 100000 in
theorem t1_L_replay (l : Launch) (hlt : l.stackTraces = false) (D : va_G) (o : Nat) (cO : ClassId) (f : Nat → Int64) (A : Nat → Nat) (G : Nat → ClassId) (x1 : Int32) (M0 : Nat → Nat → Int32) (M' : Nat → Nat → Int32) (sz : Nat) (h : x_P_replay x1 M0 = some (3, M')) : Met l y_L_replay (Cond.codeWith y_L_replay method_11_code 4 (some .int) [(0, 9, 12, 26), (0, 9, 15, 13)] :: wsH) { frames := 10, cells := 1, slots := 6, locals := 161 } (va_Pc [.ref (A 0), .int x1, .ref o] (kb_pre D kcl (tyH cO G) (wH o cO f A G M0) (eH (va_A (wH o cO f A G M0) sz)) sz)) (va_Qi (fun r' (_ : Unit) => r' = 2) (fun _ t => kb_post D kcl (tyH cO G) (wH o cO f A G M0) (wH o cO f A G M') sz t) (va_A (wH o cO f A G M0) sz)) 1 6 (va_A (wH o cO f A G M0) sz) := by
  refine va_MetW (cc := b_L_replay) (maxL := 4) (ret := (some .int)) (hh := [(0, 9, 12, 26), (0, 9, 15, 13)]) (by decide) rfl ?_
  intro p e s m args below meth c s₁ B hml hv
  obtain ⟨rfl, hpre⟩ := hv
  obtain ⟨hw, hN⟩ := kb_enter hpre
  have hx := B.exec
  have hb := B.bytes
  have hr := B.returns
  have hts := atoms_spec (ws := (Cond.codeWith y_L_replay method_11_code 4 (some .int) [(0, 9, 12, 26), (0, 9, 15, 13)] :: wsH)) B.pre
  have hth : ∀ w ∈ wsH, w.before ([.ref (A 0), .int x1, .ref o] : List Value).toArray s = true := fun w h => hts w (List.mem_cons_of_mem _ h)
  have htl : ∀ w ∈ wsL, w.before ([.ref (A 0), .int x1, .ref o] : List Value).toArray s = true := fun w h => hth w (List.mem_append_left _ h)
  have htw : ∀ w ∈ wsC, w.before ([.ref (A 0), .int x1, .ref o] : List Value).toArray s = true := fun w h => hth w (List.mem_append_right _ (List.mem_append_left _ h))
  have hown : s.vm.findClass "PileLiftsLaw" = some m.cls := findClass_of_methodNamed B.named
  have hlocks := B.notSynchronized
  have hl := lv_entry ([.ref (A 0), .int x1, .ref o]) (n := 4) (Nat.le_of_ble_eq_true rfl)
  rw [lg_entry_eq]
  generalize (lg_sl ([.ref (A 0), .int x1, .ref o]) ++ List.replicate (4 - (lg_sl ([.ref (A 0), .int x1, .ref o])).length) Slot.unset).toArray = ls at hl ⊢
  have hl : lv_has ls 4 [(0, .ref (A 0)), (1, .int x1), (2, .ref o)] := hl
  have htab := vx_table (x := y_L_replay) B (hts _ List.mem_cons_self)
  refine lv_aload_n hx hb d_L_replay_0 rfl (lv_at hl 2 rfl) ?_
  refine lv_iconst (v := 0) hx hb d_L_replay_1 (by decide) ?_
  refine lv_aload_n hx hb d_L_replay_2 rfl (lv_at hl 0 rfl) ?_
  refine lv_iload_n hx hb d_L_replay_3 rfl (lv_at hl 1 rfl) ?_
  have hC : [1, 2, 3, 4, 5, 6, 7, 8, 9, 10, 11, 12, 13, 14, 15, 16, 17].map (fun i => (wH o cO f A G M0)[i]?) = (wC A G M0).map some := rfl
  have hF := va_free (wc := wC A G M0) hw.2.2.1 hw.2.2.2.1 hw.2.2.2.2 [1, 2, 3, 4, 5, 6, 7, 8, 9, 10, 11, 12, 13, 14, 15, 16, 17] hC
  refine vx_calli (vx_runV (As := [.int x1]) (rest := [.int 0, .ref o]) ⟨hx, hb, hml, hown, hth⟩ (xc_P_replay l hlt D A G x1 M0 _ _ s.heap.size h) ⟨callB_of 1 hth (wsH_X mC_198) rfl rfl rfl (htw _ mC_0) (htl _ mL_43) q_P_replay ⟨by show 9 + 1 ≤ 10; omega, by show 8 + (2 + 11) + 140 ≤ 161; omega⟩, htw _ mC_196, htw _ mC_197⟩ (kb_preVh (NN' := eeC (va_A (wC A G M0) s.heap.size)) eeC_blind hw [1, 2, 3, 4, 5, 6, 7, 8, 9, 10, 11, 12, 13, 14, 15, 16, 17] [1, 2, 3, 4, 5, 6, 7, 8, 9, 10, 11, 12, 13] rfl rfl (by decide) rfl (fun U hU hW => eeC_call hN.1 hW hU hw.2.2.2.1 hF) 0 (wC_0 A G _) rfl) rfl rfl hl.1 rfl (lv_room (Nat.le_of_ble_eq_true rfl)) d_L_replay_4 ⟨Nat.le_refl 1, Nat.le_refl 6⟩) hw.2.2.2.1 (fun q _ h => hF q h) hF (fun q _ h => hF q h) (fun E ce q9 u t H1 locs1 ht hvm hp hB hz hk hS hcell hv hcl => ?_) (fun r9 u t H1 locs1 ht hvm hp => hp.elim)
  obtain ⟨rfl, hpost⟩ := hB
  have hw : kb_K D kcl (tyH cO G) (wH o cO f A G M') s (va_A (wH o cO f A G M0) sz) H1 locs1 := kb_behind (wr := [(o, .inl (cO, 1, .inr (.inl f)))]) (w1 := wC A G M') hw [1, 2, 3, 4, 5, 6, 7, 8, 9, 10, 11, 12, 13, 14, 15, 16, 17] [0] hC rfl (by decide) (by decide) rfl ht hpost hk hS
  refine vx_catch (name := kb_ex 3) hown [⟨0, 9, 12, 26⟩] ⟨0, 9, 15, 13⟩ [] htab (fun z hz => by
    rcases List.mem_singleton.mp hz with rfl
    · exact Or.inr ⟨by decide, _, htl _ mL_18, hN.2.2.2.1⟩) (by decide) (by decide) (htl _ mL_7) (va_Nw.use rfl (hN.1.2.1 _ (List.mem_of_getElem? (i := 5) rfl))) hcell hv hcl ?_
  refine lv_astore_n (lv' := [(3, .ref q9), (0, .ref (A 0)), (1, .int x1), (2, .ref o)]) hx hb d_L_replay_15 rfl hl (by decide) rfl (fun ls hl => ?_)
  refine lv_iconst (v := 2) hx hb d_L_replay_16 (by decide) ?_
  refine W.cs (cells' := 1) (slots' := 6) rfl rfl ?_
  exact kb_iret hx hb hr hw hlocks d_L_replay_17
set_option maxHeartbeats 4000000 in
set_option maxRecDepth 100000 in
theorem n_L_at (l : Launch) (D : va_G) (o : Nat) (cO : ClassId) (f : Nat → Int64) (A : Nat → Nat) (G : Nat → ClassId) (x1 x2 : Int32) (M0 : Nat → Nat → Int32) (r : Int32) (M' : Nat → Nat → Int32) (sz : Nat) (h : f_P_at x1 x2 M0 = some (r, M')) : Met l y_L_at (Cond.codeWith y_L_at method_12_code 5 (some .int) [(0, 10, 13, 19)] :: wsH) { frames := 4, cells := 0, slots := 0, locals := 90 } (va_Pc [.ref (A 0), .int x1, .int x2, .ref o] (kb_pre D kcl (tyH cO G) (wH o cO f A G M0) nnC sz)) (va_Qi (fun r' (_ : Unit) => r' = 0) (fun _ t => kb_post D kcl (tyH cO G) (wH o cO f A G M0) (wH o cO (vp_updL f 0 r.toInt64) A G M') sz t) (va_A (wH o cO f A G M0) sz)) 0 0 (va_A (wH o cO f A G M0) sz) := by
  refine va_MetW (cc := b_L_at) (maxL := 5) (ret := (some .int)) (hh := [(0, 10, 13, 19)]) (by decide) rfl ?_
  intro p e s m args below meth c s₁ B hml hv
  obtain ⟨rfl, hpre⟩ := hv
  obtain ⟨hw, hN⟩ := kb_enter hpre
  have hx := B.exec
  have hb := B.bytes
  have hr := B.returns
  have hts := atoms_spec (ws := (Cond.codeWith y_L_at method_12_code 5 (some .int) [(0, 10, 13, 19)] :: wsH)) B.pre
  have hth : ∀ w ∈ wsH, w.before ([.ref (A 0), .int x1, .int x2, .ref o] : List Value).toArray s = true := fun w h => hts w (List.mem_cons_of_mem _ h)
  have htl : ∀ w ∈ wsL, w.before ([.ref (A 0), .int x1, .int x2, .ref o] : List Value).toArray s = true := fun w h => hth w (List.mem_append_left _ h)
  have htw : ∀ w ∈ wsC, w.before ([.ref (A 0), .int x1, .int x2, .ref o] : List Value).toArray s = true := fun w h => hth w (List.mem_append_right _ (List.mem_append_left _ h))
  have hown : s.vm.findClass "PileLiftsLaw" = some m.cls := findClass_of_methodNamed B.named
  have hlocks := B.notSynchronized
  have hl := lv_entry ([.ref (A 0), .int x1, .int x2, .ref o]) (n := 5) (Nat.le_of_ble_eq_true rfl)
  rw [lg_entry_eq]
  generalize (lg_sl ([.ref (A 0), .int x1, .int x2, .ref o]) ++ List.replicate (5 - (lg_sl ([.ref (A 0), .int x1, .int x2, .ref o])).length) Slot.unset).toArray = ls at hl ⊢
  have hl : lv_has ls 5 [(0, .ref (A 0)), (1, .int x1), (2, .int x2), (3, .ref o)] := hl
  refine lv_aload_n hx hb d_L_at_0 rfl (lv_at hl 3 rfl) ?_
  refine lv_iconst (v := 0) hx hb d_L_at_1 (by decide) ?_
  refine lv_aload_n hx hb d_L_at_2 rfl (lv_at hl 0 rfl) ?_
  refine lv_iload_n hx hb d_L_at_3 rfl (lv_at hl 1 rfl) ?_
  refine lv_iload_n hx hb d_L_at_4 rfl (lv_at hl 2 rfl) ?_
  refine kb_calli (wc := wC A G M0) (wr := [(o, .inl (cO, 1, .inr (.inl f)))]) (w1 := wC A G M') (ws' := (wH o cO f A G M')) (va_runV (As := [.int x1, .int x2]) (rest := [.int 0, .ref o]) ⟨hx, hb, hml, hown, hth⟩ (c_P_at l D A G x1 x2 M0 _ _ s.heap.size h) ⟨callB_of 2 hth (wsH_C mC_205) rfl rfl rfl (htw _ mC_0) (htl _ mL_47) q_P_at ⟨by show 3 + 1 ≤ 4; omega, by show 8 + (3 + 11) + 68 ≤ 90; omega⟩, htw _ mC_203, htw _ mC_204⟩ (kb_preVh nnC_b hw [1, 2, 3, 4, 5, 6, 7, 8, 9, 10, 11, 12, 13, 14, 15, 16, 17] [1, 2, 3, 4, 5, 6, 7, 8, 9, 10, 11, 12, 13] rfl rfl (by decide) rfl (fun U hU hW => nnC_warm s U hW hN) 0 (wC_0 A G _) rfl) rfl rfl hl.1 rfl (lv_room (Nat.le_of_ble_eq_true rfl)) d_L_at_5 ⟨Nat.zero_le _, Nat.zero_le _⟩) hw [1, 2, 3, 4, 5, 6, 7, 8, 9, 10, 11, 12, 13, 14, 15, 16, 17] [0] rfl rfl (by decide) (by decide) rfl (fun H locs hw => ?_)
  refine W.cs (cells' := 0) (slots' := 0) rfl rfl ?_
  refine lv_i2l (v := r.toInt64) hx hb d_L_at_8 rfl ?_
  refine va_last hx hb hw.1 hw.2.1 hw.2.2.1 hw.2.2.2.1 0 0 rfl rfl (show ¬ ((0 : Int32) < 0 ∨ 1 ≤ (0 : Int32).toNatClampNeg) by decide) d_L_at_9 (fun H locs hP hD hS => ?_)
  have hw : kb_K D kcl (tyH cO G) (wH o cO (vp_updL f 0 r.toInt64) A G M') s (va_A (wH o cO f A G M0) sz) H locs := ⟨hw.1, hP, hD, hS, hw.2.2.2.2⟩
  refine lv_goto (tgt := 17) hx hb d_L_at_10 (by decide) ?_
  refine lv_iconst (v := 0) hx hb d_L_at_17 (by decide) ?_
  exact kb_iret hx hb hr hw hlocks d_L_at_18
set_option maxHeartbeats 4000000 in
set_option maxRecDepth 100000 in
theorem t0_L_at (l : Launch) (hlt : l.stackTraces = false) (D : va_G) (o : Nat) (cO : ClassId) (f : Nat → Int64) (A : Nat → Nat) (G : Nat → ClassId) (x1 x2 : Int32) (M0 : Nat → Nat → Int32) (M' : Nat → Nat → Int32) (sz : Nat) (h : x_P_at x1 x2 M0 = some (1, M')) : Met l y_L_at (Cond.codeWith y_L_at method_12_code 5 (some .int) [(0, 10, 13, 19)] :: wsH) { frames := 10, cells := 1, slots := 6, locals := 163 } (va_Pc [.ref (A 0), .int x1, .int x2, .ref o] (kb_pre D kcl (tyH cO G) (wH o cO f A G M0) (eH (va_A (wH o cO f A G M0) sz)) sz)) (va_Qi (fun r' (_ : Unit) => r' = 1) (fun _ t => kb_post D kcl (tyH cO G) (wH o cO f A G M0) (wH o cO f A G M') sz t) (va_A (wH o cO f A G M0) sz)) 1 6 (va_A (wH o cO f A G M0) sz) := by
  refine va_MetW (cc := b_L_at) (maxL := 5) (ret := (some .int)) (hh := [(0, 10, 13, 19)]) (by decide) rfl ?_
  intro p e s m args below meth c s₁ B hml hv
  obtain ⟨rfl, hpre⟩ := hv
  obtain ⟨hw, hN⟩ := kb_enter hpre
  have hx := B.exec
  have hb := B.bytes
  have hr := B.returns
  have hts := atoms_spec (ws := (Cond.codeWith y_L_at method_12_code 5 (some .int) [(0, 10, 13, 19)] :: wsH)) B.pre
  have hth : ∀ w ∈ wsH, w.before ([.ref (A 0), .int x1, .int x2, .ref o] : List Value).toArray s = true := fun w h => hts w (List.mem_cons_of_mem _ h)
  have htl : ∀ w ∈ wsL, w.before ([.ref (A 0), .int x1, .int x2, .ref o] : List Value).toArray s = true := fun w h => hth w (List.mem_append_left _ h)
  have htw : ∀ w ∈ wsC, w.before ([.ref (A 0), .int x1, .int x2, .ref o] : List Value).toArray s = true := fun w h => hth w (List.mem_append_right _ (List.mem_append_left _ h))
  have hown : s.vm.findClass "PileLiftsLaw" = some m.cls := findClass_of_methodNamed B.named
  have hlocks := B.notSynchronized
  have hl := lv_entry ([.ref (A 0), .int x1, .int x2, .ref o]) (n := 5) (Nat.le_of_ble_eq_true rfl)
  rw [lg_entry_eq]
  generalize (lg_sl ([.ref (A 0), .int x1, .int x2, .ref o]) ++ List.replicate (5 - (lg_sl ([.ref (A 0), .int x1, .int x2, .ref o])).length) Slot.unset).toArray = ls at hl ⊢
  have hl : lv_has ls 5 [(0, .ref (A 0)), (1, .int x1), (2, .int x2), (3, .ref o)] := hl
  have htab := vx_table (x := y_L_at) B (hts _ List.mem_cons_self)
  refine lv_aload_n hx hb d_L_at_0 rfl (lv_at hl 3 rfl) ?_
  refine lv_iconst (v := 0) hx hb d_L_at_1 (by decide) ?_
  refine lv_aload_n hx hb d_L_at_2 rfl (lv_at hl 0 rfl) ?_
  refine lv_iload_n hx hb d_L_at_3 rfl (lv_at hl 1 rfl) ?_
  refine lv_iload_n hx hb d_L_at_4 rfl (lv_at hl 2 rfl) ?_
  have hC : [1, 2, 3, 4, 5, 6, 7, 8, 9, 10, 11, 12, 13, 14, 15, 16, 17].map (fun i => (wH o cO f A G M0)[i]?) = (wC A G M0).map some := rfl
  have hF := va_free (wc := wC A G M0) hw.2.2.1 hw.2.2.2.1 hw.2.2.2.2 [1, 2, 3, 4, 5, 6, 7, 8, 9, 10, 11, 12, 13, 14, 15, 16, 17] hC
  refine vx_calli (vx_runV (As := [.int x1, .int x2]) (rest := [.int 0, .ref o]) ⟨hx, hb, hml, hown, hth⟩ (xc_P_at l hlt D A G x1 x2 M0 _ _ s.heap.size h) ⟨callB_of 2 hth (wsH_X mC_205) rfl rfl rfl (htw _ mC_0) (htl _ mL_47) q_P_at ⟨by show 9 + 1 ≤ 10; omega, by show 8 + (3 + 11) + 141 ≤ 163; omega⟩, htw _ mC_203, htw _ mC_204⟩ (kb_preVh (NN' := eeC (va_A (wC A G M0) s.heap.size)) eeC_blind hw [1, 2, 3, 4, 5, 6, 7, 8, 9, 10, 11, 12, 13, 14, 15, 16, 17] [1, 2, 3, 4, 5, 6, 7, 8, 9, 10, 11, 12, 13] rfl rfl (by decide) rfl (fun U hU hW => eeC_call hN.1 hW hU hw.2.2.2.1 hF) 0 (wC_0 A G _) rfl) rfl rfl hl.1 rfl (lv_room (Nat.le_of_ble_eq_true rfl)) d_L_at_5 ⟨Nat.le_refl 1, Nat.le_refl 6⟩) hw.2.2.2.1 (fun q _ h => hF q h) hF (fun q _ h => hF q h) (fun E ce q9 u t H1 locs1 ht hvm hp hB hz hk hS hcell hv hcl => ?_) (fun r9 u t H1 locs1 ht hvm hp => hp.elim)
  obtain ⟨rfl, hpost⟩ := hB
  have hw : kb_K D kcl (tyH cO G) (wH o cO f A G M') s (va_A (wH o cO f A G M0) sz) H1 locs1 := kb_behind (wr := [(o, .inl (cO, 1, .inr (.inl f)))]) (w1 := wC A G M') hw [1, 2, 3, 4, 5, 6, 7, 8, 9, 10, 11, 12, 13, 14, 15, 16, 17] [0] hC rfl (by decide) (by decide) rfl ht hpost hk hS
  refine vx_catch (name := kb_ex 1) hown [] ⟨0, 10, 13, 19⟩ [] htab (fun z hz => by cases hz) (by decide) (by decide) (htl _ mL_12) (va_Nw.use rfl (hN.1.2.1 _ (List.mem_of_getElem? (i := 3) rfl))) hcell hv hcl ?_
  refine lv_astore (lv' := [(4, .ref q9), (0, .ref (A 0)), (1, .int x1), (2, .int x2), (3, .ref o)]) hx hb d_L_at_13 hl (by decide) rfl (fun ls hl => ?_)
  refine lv_iconst (v := 1) hx hb d_L_at_15 (by decide) ?_
  refine W.cs (cells' := 1) (slots' := 6) rfl rfl ?_
  exact kb_iret hx hb hr hw hlocks d_L_at_16
set_option maxHeartbeats 4000000 in
set_option maxRecDepth 100000 in
theorem n_L_tidy (l : Launch) (D : va_G) (o : Nat) (cO : ClassId) (f : Nat → Int64) (A : Nat → Nat) (G : Nat → ClassId) (x1 : Int32) (M0 : Nat → Nat → Int32) (r : Int32) (M' : Nat → Nat → Int32) (sz : Nat) (h : f_P_tidy x1 M0 = some (r, M')) : Met l y_L_tidy (Cond.codeWith y_L_tidy method_13_code 4 (some .int) [(0, 9, 12, 13)] :: wsH) { frames := 6, cells := 0, slots := 0, locals := 136 } (va_Pc [.ref (A 0), .int x1, .ref o] (kb_pre D kcl (tyH cO G) (wH o cO f A G M0) nnC sz)) (va_Qi (fun r' (_ : Unit) => r' = 0) (fun _ t => kb_post D kcl (tyH cO G) (wH o cO f A G M0) (wH o cO (vp_updL f 0 r.toInt64) A G M') sz t) (va_A (wH o cO f A G M0) sz)) 0 0 (va_A (wH o cO f A G M0) sz) := by
  refine va_MetW (cc := b_L_tidy) (maxL := 4) (ret := (some .int)) (hh := [(0, 9, 12, 13)]) (by decide) rfl ?_
  intro p e s m args below meth c s₁ B hml hv
  obtain ⟨rfl, hpre⟩ := hv
  obtain ⟨hw, hN⟩ := kb_enter hpre
  have hx := B.exec
  have hb := B.bytes
  have hr := B.returns
  have hts := atoms_spec (ws := (Cond.codeWith y_L_tidy method_13_code 4 (some .int) [(0, 9, 12, 13)] :: wsH)) B.pre
  have hth : ∀ w ∈ wsH, w.before ([.ref (A 0), .int x1, .ref o] : List Value).toArray s = true := fun w h => hts w (List.mem_cons_of_mem _ h)
  have htl : ∀ w ∈ wsL, w.before ([.ref (A 0), .int x1, .ref o] : List Value).toArray s = true := fun w h => hth w (List.mem_append_left _ h)
  have htw : ∀ w ∈ wsC, w.before ([.ref (A 0), .int x1, .ref o] : List Value).toArray s = true := fun w h => hth w (List.mem_append_right _ (List.mem_append_left _ h))
  have hown : s.vm.findClass "PileLiftsLaw" = some m.cls := findClass_of_methodNamed B.named
  have hlocks := B.notSynchronized
  have hl := lv_entry ([.ref (A 0), .int x1, .ref o]) (n := 4) (Nat.le_of_ble_eq_true rfl)
  rw [lg_entry_eq]
  generalize (lg_sl ([.ref (A 0), .int x1, .ref o]) ++ List.replicate (4 - (lg_sl ([.ref (A 0), .int x1, .ref o])).length) Slot.unset).toArray = ls at hl ⊢
  have hl : lv_has ls 4 [(0, .ref (A 0)), (1, .int x1), (2, .ref o)] := hl
  refine lv_aload_n hx hb d_L_tidy_0 rfl (lv_at hl 2 rfl) ?_
  refine lv_iconst (v := 0) hx hb d_L_tidy_1 (by decide) ?_
  refine lv_aload_n hx hb d_L_tidy_2 rfl (lv_at hl 0 rfl) ?_
  refine lv_iload_n hx hb d_L_tidy_3 rfl (lv_at hl 1 rfl) ?_
  refine kb_calli (wc := wC A G M0) (wr := [(o, .inl (cO, 1, .inr (.inl f)))]) (w1 := wC A G M') (ws' := (wH o cO f A G M')) (va_runV (As := [.int x1]) (rest := [.int 0, .ref o]) ⟨hx, hb, hml, hown, hth⟩ (c_P_tidy l D A G x1 M0 _ _ s.heap.size h) ⟨callB_of 1 hth (wsH_C mC_208) rfl rfl rfl (htw _ mC_0) (htl _ mL_51) q_P_tidy ⟨by show 5 + 1 ≤ 6; omega, by show 8 + (3 + 11) + 114 ≤ 136; omega⟩, htw _ mC_206, htw _ mC_207⟩ (kb_preVh nnC_b hw [1, 2, 3, 4, 5, 6, 7, 8, 9, 10, 11, 12, 13, 14, 15, 16, 17] [1, 2, 3, 4, 5, 6, 7, 8, 9, 10, 11, 12, 13] rfl rfl (by decide) rfl (fun U hU hW => nnC_warm s U hW hN) 0 (wC_0 A G _) rfl) rfl rfl hl.1 rfl (lv_room (Nat.le_of_ble_eq_true rfl)) d_L_tidy_4 ⟨Nat.zero_le _, Nat.zero_le _⟩) hw [1, 2, 3, 4, 5, 6, 7, 8, 9, 10, 11, 12, 13, 14, 15, 16, 17] [0] rfl rfl (by decide) (by decide) rfl (fun H locs hw => ?_)
  refine W.cs (cells' := 0) (slots' := 0) rfl rfl ?_
  refine lv_i2l (v := r.toInt64) hx hb d_L_tidy_7 rfl ?_
  refine va_last hx hb hw.1 hw.2.1 hw.2.2.1 hw.2.2.2.1 0 0 rfl rfl (show ¬ ((0 : Int32) < 0 ∨ 1 ≤ (0 : Int32).toNatClampNeg) by decide) d_L_tidy_8 (fun H locs hP hD hS => ?_)
  have hw : kb_K D kcl (tyH cO G) (wH o cO (vp_updL f 0 r.toInt64) A G M') s (va_A (wH o cO f A G M0) sz) H locs := ⟨hw.1, hP, hD, hS, hw.2.2.2.2⟩
  refine lv_goto (tgt := 15) hx hb d_L_tidy_9 (by decide) ?_
  refine lv_iconst (v := 0) hx hb d_L_tidy_15 (by decide) ?_
  exact kb_iret hx hb hr hw hlocks d_L_tidy_16
set_option maxHeartbeats 4000000 in
set_option maxRecDepth 100000 in
theorem t0_L_tidy (l : Launch) (hlt : l.stackTraces = false) (D : va_G) (o : Nat) (cO : ClassId) (f : Nat → Int64) (A : Nat → Nat) (G : Nat → ClassId) (x1 : Int32) (M0 : Nat → Nat → Int32) (M' : Nat → Nat → Int32) (sz : Nat) (h : x_P_tidy x1 M0 = some (3, M')) : Met l y_L_tidy (Cond.codeWith y_L_tidy method_13_code 4 (some .int) [(0, 9, 12, 13)] :: wsH) { frames := 9, cells := 1, slots := 6, locals := 142 } (va_Pc [.ref (A 0), .int x1, .ref o] (kb_pre D kcl (tyH cO G) (wH o cO f A G M0) (eH (va_A (wH o cO f A G M0) sz)) sz)) (va_Qi (fun r' (_ : Unit) => r' = 1) (fun _ t => kb_post D kcl (tyH cO G) (wH o cO f A G M0) (wH o cO f A G M') sz t) (va_A (wH o cO f A G M0) sz)) 1 6 (va_A (wH o cO f A G M0) sz) := by
  refine va_MetW (cc := b_L_tidy) (maxL := 4) (ret := (some .int)) (hh := [(0, 9, 12, 13)]) (by decide) rfl ?_
  intro p e s m args below meth c s₁ B hml hv
  obtain ⟨rfl, hpre⟩ := hv
  obtain ⟨hw, hN⟩ := kb_enter hpre
  have hx := B.exec
  have hb := B.bytes
  have hr := B.returns
  have hts := atoms_spec (ws := (Cond.codeWith y_L_tidy method_13_code 4 (some .int) [(0, 9, 12, 13)] :: wsH)) B.pre
  have hth : ∀ w ∈ wsH, w.before ([.ref (A 0), .int x1, .ref o] : List Value).toArray s = true := fun w h => hts w (List.mem_cons_of_mem _ h)
  have htl : ∀ w ∈ wsL, w.before ([.ref (A 0), .int x1, .ref o] : List Value).toArray s = true := fun w h => hth w (List.mem_append_left _ h)
  have htw : ∀ w ∈ wsC, w.before ([.ref (A 0), .int x1, .ref o] : List Value).toArray s = true := fun w h => hth w (List.mem_append_right _ (List.mem_append_left _ h))
  have hown : s.vm.findClass "PileLiftsLaw" = some m.cls := findClass_of_methodNamed B.named
  have hlocks := B.notSynchronized
  have hl := lv_entry ([.ref (A 0), .int x1, .ref o]) (n := 4) (Nat.le_of_ble_eq_true rfl)
  rw [lg_entry_eq]
  generalize (lg_sl ([.ref (A 0), .int x1, .ref o]) ++ List.replicate (4 - (lg_sl ([.ref (A 0), .int x1, .ref o])).length) Slot.unset).toArray = ls at hl ⊢
  have hl : lv_has ls 4 [(0, .ref (A 0)), (1, .int x1), (2, .ref o)] := hl
  have htab := vx_table (x := y_L_tidy) B (hts _ List.mem_cons_self)
  refine lv_aload_n hx hb d_L_tidy_0 rfl (lv_at hl 2 rfl) ?_
  refine lv_iconst (v := 0) hx hb d_L_tidy_1 (by decide) ?_
  refine lv_aload_n hx hb d_L_tidy_2 rfl (lv_at hl 0 rfl) ?_
  refine lv_iload_n hx hb d_L_tidy_3 rfl (lv_at hl 1 rfl) ?_
  have hC : [1, 2, 3, 4, 5, 6, 7, 8, 9, 10, 11, 12, 13, 14, 15, 16, 17].map (fun i => (wH o cO f A G M0)[i]?) = (wC A G M0).map some := rfl
  have hF := va_free (wc := wC A G M0) hw.2.2.1 hw.2.2.2.1 hw.2.2.2.2 [1, 2, 3, 4, 5, 6, 7, 8, 9, 10, 11, 12, 13, 14, 15, 16, 17] hC
  refine vx_calli (vx_runV (As := [.int x1]) (rest := [.int 0, .ref o]) ⟨hx, hb, hml, hown, hth⟩ (xc_P_tidy l hlt D A G x1 M0 _ _ s.heap.size h) ⟨callB_of 1 hth (wsH_X mC_208) rfl rfl rfl (htw _ mC_0) (htl _ mL_51) q_P_tidy ⟨by show 8 + 1 ≤ 9; omega, by show 8 + (3 + 11) + 120 ≤ 142; omega⟩, htw _ mC_206, htw _ mC_207⟩ (kb_preVh (NN' := eeC (va_A (wC A G M0) s.heap.size)) eeC_blind hw [1, 2, 3, 4, 5, 6, 7, 8, 9, 10, 11, 12, 13, 14, 15, 16, 17] [1, 2, 3, 4, 5, 6, 7, 8, 9, 10, 11, 12, 13] rfl rfl (by decide) rfl (fun U hU hW => eeC_call hN.1 hW hU hw.2.2.2.1 hF) 0 (wC_0 A G _) rfl) rfl rfl hl.1 rfl (lv_room (Nat.le_of_ble_eq_true rfl)) d_L_tidy_4 ⟨Nat.le_refl 1, Nat.le_refl 6⟩) hw.2.2.2.1 (fun q _ h => hF q h) hF (fun q _ h => hF q h) (fun E ce q9 u t H1 locs1 ht hvm hp hB hz hk hS hcell hv hcl => ?_) (fun r9 u t H1 locs1 ht hvm hp => hp.elim)
  obtain ⟨rfl, hpost⟩ := hB
  have hw : kb_K D kcl (tyH cO G) (wH o cO f A G M') s (va_A (wH o cO f A G M0) sz) H1 locs1 := kb_behind (wr := [(o, .inl (cO, 1, .inr (.inl f)))]) (w1 := wC A G M') hw [1, 2, 3, 4, 5, 6, 7, 8, 9, 10, 11, 12, 13, 14, 15, 16, 17] [0] hC rfl (by decide) (by decide) rfl ht hpost hk hS
  refine vx_catch (name := kb_ex 3) hown [] ⟨0, 9, 12, 13⟩ [] htab (fun z hz => by cases hz) (by decide) (by decide) (htl _ mL_7) (va_Nw.use rfl (hN.1.2.1 _ (List.mem_of_getElem? (i := 5) rfl))) hcell hv hcl ?_
  refine lv_astore_n (lv' := [(3, .ref q9), (0, .ref (A 0)), (1, .int x1), (2, .ref o)]) hx hb d_L_tidy_12 rfl hl (by decide) rfl (fun ls hl => ?_)
  refine lv_iconst (v := 1) hx hb d_L_tidy_13 (by decide) ?_
  refine W.cs (cells' := 1) (slots' := 6) rfl rfl ?_
  exact kb_iret hx hb hr hw hlocks d_L_tidy_14
set_option maxHeartbeats 4000000 in
set_option maxRecDepth 100000 in
theorem n_L_wagon (l : Launch) (D : va_G) (o : Nat) (cO : ClassId) (f : Nat → Int64) (A : Nat → Nat) (G : Nat → ClassId) (x1 : Int32) (M0 : Nat → Nat → Int32) (r : Int32) (M' : Nat → Nat → Int32) (sz : Nat) (h : f_P_wagon x1 M0 = some (r, M')) : Met l y_L_wagon (Cond.codeWith y_L_wagon method_14_code 4 (some .int) [(0, 9, 12, 13), (0, 9, 15, 21)] :: wsH) { frames := 2, cells := 0, slots := 0, locals := 43 } (va_Pc [.ref (A 0), .int x1, .ref o] (kb_pre D kcl (tyH cO G) (wH o cO f A G M0) nnC sz)) (va_Qi (fun r' (_ : Unit) => r' = 0) (fun _ t => kb_post D kcl (tyH cO G) (wH o cO f A G M0) (wH o cO (vp_updL f 0 r.toInt64) A G M') sz t) (va_A (wH o cO f A G M0) sz)) 0 0 (va_A (wH o cO f A G M0) sz) := by
  refine va_MetW (cc := b_L_wagon) (maxL := 4) (ret := (some .int)) (hh := [(0, 9, 12, 13), (0, 9, 15, 21)]) (by decide) rfl ?_
  intro p e s m args below meth c s₁ B hml hv
  obtain ⟨rfl, hpre⟩ := hv
  obtain ⟨hw, hN⟩ := kb_enter hpre
  have hx := B.exec
  have hb := B.bytes
  have hr := B.returns
  have hts := atoms_spec (ws := (Cond.codeWith y_L_wagon method_14_code 4 (some .int) [(0, 9, 12, 13), (0, 9, 15, 21)] :: wsH)) B.pre
  have hth : ∀ w ∈ wsH, w.before ([.ref (A 0), .int x1, .ref o] : List Value).toArray s = true := fun w h => hts w (List.mem_cons_of_mem _ h)
  have htl : ∀ w ∈ wsL, w.before ([.ref (A 0), .int x1, .ref o] : List Value).toArray s = true := fun w h => hth w (List.mem_append_left _ h)
  have htw : ∀ w ∈ wsC, w.before ([.ref (A 0), .int x1, .ref o] : List Value).toArray s = true := fun w h => hth w (List.mem_append_right _ (List.mem_append_left _ h))
  have hown : s.vm.findClass "PileLiftsLaw" = some m.cls := findClass_of_methodNamed B.named
  have hlocks := B.notSynchronized
  have hl := lv_entry ([.ref (A 0), .int x1, .ref o]) (n := 4) (Nat.le_of_ble_eq_true rfl)
  rw [lg_entry_eq]
  generalize (lg_sl ([.ref (A 0), .int x1, .ref o]) ++ List.replicate (4 - (lg_sl ([.ref (A 0), .int x1, .ref o])).length) Slot.unset).toArray = ls at hl ⊢
  have hl : lv_has ls 4 [(0, .ref (A 0)), (1, .int x1), (2, .ref o)] := hl
  refine lv_aload_n hx hb d_L_wagon_0 rfl (lv_at hl 2 rfl) ?_
  refine lv_iconst (v := 0) hx hb d_L_wagon_1 (by decide) ?_
  refine lv_aload_n hx hb d_L_wagon_2 rfl (lv_at hl 0 rfl) ?_
  refine lv_iload_n hx hb d_L_wagon_3 rfl (lv_at hl 1 rfl) ?_
  refine kb_calli (wc := wC A G M0) (wr := [(o, .inl (cO, 1, .inr (.inl f)))]) (w1 := wC A G M') (ws' := (wH o cO f A G M')) (va_runV (As := [.int x1]) (rest := [.int 0, .ref o]) ⟨hx, hb, hml, hown, hth⟩ (c_P_wagon l D A G x1 M0 _ _ s.heap.size h) ⟨callB_of 1 hth (wsH_C mC_219) rfl rfl rfl (htw _ mC_0) (htl _ mL_55) q_P_wagon ⟨by show 1 + 1 ≤ 2; omega, by show 8 + (2 + 11) + 22 ≤ 43; omega⟩, htw _ mC_217, htw _ mC_218⟩ (kb_preVh nnC_b hw [1, 2, 3, 4, 5, 6, 7, 8, 9, 10, 11, 12, 13, 14, 15, 16, 17] [1, 2, 3, 4, 5, 6, 7, 8, 9, 10, 11, 12, 13] rfl rfl (by decide) rfl (fun U hU hW => nnC_warm s U hW hN) 0 (wC_0 A G _) rfl) rfl rfl hl.1 rfl (lv_room (Nat.le_of_ble_eq_true rfl)) d_L_wagon_4 ⟨Nat.zero_le _, Nat.zero_le _⟩) hw [1, 2, 3, 4, 5, 6, 7, 8, 9, 10, 11, 12, 13, 14, 15, 16, 17] [0] rfl rfl (by decide) (by decide) rfl (fun H locs hw => ?_)
  refine W.cs (cells' := 0) (slots' := 0) rfl rfl ?_
  refine lv_i2l (v := r.toInt64) hx hb d_L_wagon_7 rfl ?_
  refine va_last hx hb hw.1 hw.2.1 hw.2.2.1 hw.2.2.2.1 0 0 rfl rfl (show ¬ ((0 : Int32) < 0 ∨ 1 ≤ (0 : Int32).toNatClampNeg) by decide) d_L_wagon_8 (fun H locs hP hD hS => ?_)
  have hw : kb_K D kcl (tyH cO G) (wH o cO (vp_updL f 0 r.toInt64) A G M') s (va_A (wH o cO f A G M0) sz) H locs := ⟨hw.1, hP, hD, hS, hw.2.2.2.2⟩
  refine lv_goto (tgt := 18) hx hb d_L_wagon_9 (by decide) ?_
  refine lv_iconst (v := 0) hx hb d_L_wagon_18 (by decide) ?_
  exact kb_iret hx hb hr hw hlocks d_L_wagon_19
set_option maxHeartbeats 4000000 in
set_option maxRecDepth 100000 in
theorem t0_L_wagon (l : Launch) (hlt : l.stackTraces = false) (D : va_G) (o : Nat) (cO : ClassId) (f : Nat → Int64) (A : Nat → Nat) (G : Nat → ClassId) (x1 : Int32) (M0 : Nat → Nat → Int32) (M' : Nat → Nat → Int32) (sz : Nat) (h : x_P_wagon x1 M0 = some (3, M')) : Met l y_L_wagon (Cond.codeWith y_L_wagon method_14_code 4 (some .int) [(0, 9, 12, 13), (0, 9, 15, 21)] :: wsH) { frames := 9, cells := 1, slots := 6, locals := 141 } (va_Pc [.ref (A 0), .int x1, .ref o] (kb_pre D kcl (tyH cO G) (wH o cO f A G M0) (eH (va_A (wH o cO f A G M0) sz)) sz)) (va_Qi (fun r' (_ : Unit) => r' = 1) (fun _ t => kb_post D kcl (tyH cO G) (wH o cO f A G M0) (wH o cO f A G M') sz t) (va_A (wH o cO f A G M0) sz)) 1 6 (va_A (wH o cO f A G M0) sz) := by
  refine va_MetW (cc := b_L_wagon) (maxL := 4) (ret := (some .int)) (hh := [(0, 9, 12, 13), (0, 9, 15, 21)]) (by decide) rfl ?_
  intro p e s m args below meth c s₁ B hml hv
  obtain ⟨rfl, hpre⟩ := hv
  obtain ⟨hw, hN⟩ := kb_enter hpre
  have hx := B.exec
  have hb := B.bytes
  have hr := B.returns
  have hts := atoms_spec (ws := (Cond.codeWith y_L_wagon method_14_code 4 (some .int) [(0, 9, 12, 13), (0, 9, 15, 21)] :: wsH)) B.pre
  have hth : ∀ w ∈ wsH, w.before ([.ref (A 0), .int x1, .ref o] : List Value).toArray s = true := fun w h => hts w (List.mem_cons_of_mem _ h)
  have htl : ∀ w ∈ wsL, w.before ([.ref (A 0), .int x1, .ref o] : List Value).toArray s = true := fun w h => hth w (List.mem_append_left _ h)
  have htw : ∀ w ∈ wsC, w.before ([.ref (A 0), .int x1, .ref o] : List Value).toArray s = true := fun w h => hth w (List.mem_append_right _ (List.mem_append_left _ h))
  have hown : s.vm.findClass "PileLiftsLaw" = some m.cls := findClass_of_methodNamed B.named
  have hlocks := B.notSynchronized
  have hl := lv_entry ([.ref (A 0), .int x1, .ref o]) (n := 4) (Nat.le_of_ble_eq_true rfl)
  rw [lg_entry_eq]
  generalize (lg_sl ([.ref (A 0), .int x1, .ref o]) ++ List.replicate (4 - (lg_sl ([.ref (A 0), .int x1, .ref o])).length) Slot.unset).toArray = ls at hl ⊢
  have hl : lv_has ls 4 [(0, .ref (A 0)), (1, .int x1), (2, .ref o)] := hl
  have htab := vx_table (x := y_L_wagon) B (hts _ List.mem_cons_self)
  refine lv_aload_n hx hb d_L_wagon_0 rfl (lv_at hl 2 rfl) ?_
  refine lv_iconst (v := 0) hx hb d_L_wagon_1 (by decide) ?_
  refine lv_aload_n hx hb d_L_wagon_2 rfl (lv_at hl 0 rfl) ?_
  refine lv_iload_n hx hb d_L_wagon_3 rfl (lv_at hl 1 rfl) ?_
  have hC : [1, 2, 3, 4, 5, 6, 7, 8, 9, 10, 11, 12, 13, 14, 15, 16, 17].map (fun i => (wH o cO f A G M0)[i]?) = (wC A G M0).map some := rfl
  have hF := va_free (wc := wC A G M0) hw.2.2.1 hw.2.2.2.1 hw.2.2.2.2 [1, 2, 3, 4, 5, 6, 7, 8, 9, 10, 11, 12, 13, 14, 15, 16, 17] hC
  refine vx_calli (vx_runV (As := [.int x1]) (rest := [.int 0, .ref o]) ⟨hx, hb, hml, hown, hth⟩ (xc_P_wagon l hlt D A G x1 M0 _ _ s.heap.size h) ⟨callB_of 1 hth (wsH_X mC_219) rfl rfl rfl (htw _ mC_0) (htl _ mL_55) q_P_wagon ⟨by show 8 + 1 ≤ 9; omega, by show 8 + (2 + 11) + 120 ≤ 141; omega⟩, htw _ mC_217, htw _ mC_218⟩ (kb_preVh (NN' := eeC (va_A (wC A G M0) s.heap.size)) eeC_blind hw [1, 2, 3, 4, 5, 6, 7, 8, 9, 10, 11, 12, 13, 14, 15, 16, 17] [1, 2, 3, 4, 5, 6, 7, 8, 9, 10, 11, 12, 13] rfl rfl (by decide) rfl (fun U hU hW => eeC_call hN.1 hW hU hw.2.2.2.1 hF) 0 (wC_0 A G _) rfl) rfl rfl hl.1 rfl (lv_room (Nat.le_of_ble_eq_true rfl)) d_L_wagon_4 ⟨Nat.le_refl 1, Nat.le_refl 6⟩) hw.2.2.2.1 (fun q _ h => hF q h) hF (fun q _ h => hF q h) (fun E ce q9 u t H1 locs1 ht hvm hp hB hz hk hS hcell hv hcl => ?_) (fun r9 u t H1 locs1 ht hvm hp => hp.elim)
  obtain ⟨rfl, hpost⟩ := hB
  have hw : kb_K D kcl (tyH cO G) (wH o cO f A G M') s (va_A (wH o cO f A G M0) sz) H1 locs1 := kb_behind (wr := [(o, .inl (cO, 1, .inr (.inl f)))]) (w1 := wC A G M') hw [1, 2, 3, 4, 5, 6, 7, 8, 9, 10, 11, 12, 13, 14, 15, 16, 17] [0] hC rfl (by decide) (by decide) rfl ht hpost hk hS
  refine vx_catch (name := kb_ex 3) hown [] ⟨0, 9, 12, 13⟩ [⟨0, 9, 15, 21⟩] htab (fun z hz => by cases hz) (by decide) (by decide) (htl _ mL_7) (va_Nw.use rfl (hN.1.2.1 _ (List.mem_of_getElem? (i := 5) rfl))) hcell hv hcl ?_
  refine lv_astore_n (lv' := [(3, .ref q9), (0, .ref (A 0)), (1, .int x1), (2, .ref o)]) hx hb d_L_wagon_12 rfl hl (by decide) rfl (fun ls hl => ?_)
  refine lv_iconst (v := 1) hx hb d_L_wagon_13 (by decide) ?_
  refine W.cs (cells' := 1) (slots' := 6) rfl rfl ?_
  exact kb_iret hx hb hr hw hlocks d_L_wagon_14
set_option maxHeartbeats 4000000 in
set_option maxRecDepth 100000 in
theorem t1_L_wagon (l : Launch) (hlt : l.stackTraces = false) (D : va_G) (o : Nat) (cO : ClassId) (f : Nat → Int64) (A : Nat → Nat) (G : Nat → ClassId) (x1 : Int32) (M0 : Nat → Nat → Int32) (M' : Nat → Nat → Int32) (sz : Nat) (h : x_P_wagon x1 M0 = some (4, M')) : Met l y_L_wagon (Cond.codeWith y_L_wagon method_14_code 4 (some .int) [(0, 9, 12, 13), (0, 9, 15, 21)] :: wsH) { frames := 9, cells := 1, slots := 6, locals := 141 } (va_Pc [.ref (A 0), .int x1, .ref o] (kb_pre D kcl (tyH cO G) (wH o cO f A G M0) (eH (va_A (wH o cO f A G M0) sz)) sz)) (va_Qi (fun r' (_ : Unit) => r' = 2) (fun _ t => kb_post D kcl (tyH cO G) (wH o cO f A G M0) (wH o cO f A G M') sz t) (va_A (wH o cO f A G M0) sz)) 1 6 (va_A (wH o cO f A G M0) sz) := by
  refine va_MetW (cc := b_L_wagon) (maxL := 4) (ret := (some .int)) (hh := [(0, 9, 12, 13), (0, 9, 15, 21)]) (by decide) rfl ?_
  intro p e s m args below meth c s₁ B hml hv
  obtain ⟨rfl, hpre⟩ := hv
  obtain ⟨hw, hN⟩ := kb_enter hpre
  have hx := B.exec
  have hb := B.bytes
  have hr := B.returns
  have hts := atoms_spec (ws := (Cond.codeWith y_L_wagon method_14_code 4 (some .int) [(0, 9, 12, 13), (0, 9, 15, 21)] :: wsH)) B.pre
  have hth : ∀ w ∈ wsH, w.before ([.ref (A 0), .int x1, .ref o] : List Value).toArray s = true := fun w h => hts w (List.mem_cons_of_mem _ h)
  have htl : ∀ w ∈ wsL, w.before ([.ref (A 0), .int x1, .ref o] : List Value).toArray s = true := fun w h => hth w (List.mem_append_left _ h)
  have htw : ∀ w ∈ wsC, w.before ([.ref (A 0), .int x1, .ref o] : List Value).toArray s = true := fun w h => hth w (List.mem_append_right _ (List.mem_append_left _ h))
  have hown : s.vm.findClass "PileLiftsLaw" = some m.cls := findClass_of_methodNamed B.named
  have hlocks := B.notSynchronized
  have hl := lv_entry ([.ref (A 0), .int x1, .ref o]) (n := 4) (Nat.le_of_ble_eq_true rfl)
  rw [lg_entry_eq]
  generalize (lg_sl ([.ref (A 0), .int x1, .ref o]) ++ List.replicate (4 - (lg_sl ([.ref (A 0), .int x1, .ref o])).length) Slot.unset).toArray = ls at hl ⊢
  have hl : lv_has ls 4 [(0, .ref (A 0)), (1, .int x1), (2, .ref o)] := hl
  have htab := vx_table (x := y_L_wagon) B (hts _ List.mem_cons_self)
  refine lv_aload_n hx hb d_L_wagon_0 rfl (lv_at hl 2 rfl) ?_
  refine lv_iconst (v := 0) hx hb d_L_wagon_1 (by decide) ?_
  refine lv_aload_n hx hb d_L_wagon_2 rfl (lv_at hl 0 rfl) ?_
  refine lv_iload_n hx hb d_L_wagon_3 rfl (lv_at hl 1 rfl) ?_
  have hC : [1, 2, 3, 4, 5, 6, 7, 8, 9, 10, 11, 12, 13, 14, 15, 16, 17].map (fun i => (wH o cO f A G M0)[i]?) = (wC A G M0).map some := rfl
  have hF := va_free (wc := wC A G M0) hw.2.2.1 hw.2.2.2.1 hw.2.2.2.2 [1, 2, 3, 4, 5, 6, 7, 8, 9, 10, 11, 12, 13, 14, 15, 16, 17] hC
  refine vx_calli (vx_runV (As := [.int x1]) (rest := [.int 0, .ref o]) ⟨hx, hb, hml, hown, hth⟩ (xc_P_wagon l hlt D A G x1 M0 _ _ s.heap.size h) ⟨callB_of 1 hth (wsH_X mC_219) rfl rfl rfl (htw _ mC_0) (htl _ mL_55) q_P_wagon ⟨by show 8 + 1 ≤ 9; omega, by show 8 + (2 + 11) + 120 ≤ 141; omega⟩, htw _ mC_217, htw _ mC_218⟩ (kb_preVh (NN' := eeC (va_A (wC A G M0) s.heap.size)) eeC_blind hw [1, 2, 3, 4, 5, 6, 7, 8, 9, 10, 11, 12, 13, 14, 15, 16, 17] [1, 2, 3, 4, 5, 6, 7, 8, 9, 10, 11, 12, 13] rfl rfl (by decide) rfl (fun U hU hW => eeC_call hN.1 hW hU hw.2.2.2.1 hF) 0 (wC_0 A G _) rfl) rfl rfl hl.1 rfl (lv_room (Nat.le_of_ble_eq_true rfl)) d_L_wagon_4 ⟨Nat.le_refl 1, Nat.le_refl 6⟩) hw.2.2.2.1 (fun q _ h => hF q h) hF (fun q _ h => hF q h) (fun E ce q9 u t H1 locs1 ht hvm hp hB hz hk hS hcell hv hcl => ?_) (fun r9 u t H1 locs1 ht hvm hp => hp.elim)
  obtain ⟨rfl, hpost⟩ := hB
  have hw : kb_K D kcl (tyH cO G) (wH o cO f A G M') s (va_A (wH o cO f A G M0) sz) H1 locs1 := kb_behind (wr := [(o, .inl (cO, 1, .inr (.inl f)))]) (w1 := wC A G M') hw [1, 2, 3, 4, 5, 6, 7, 8, 9, 10, 11, 12, 13, 14, 15, 16, 17] [0] hC rfl (by decide) (by decide) rfl ht hpost hk hS
  refine vx_catch (name := kb_ex 4) hown [⟨0, 9, 12, 13⟩] ⟨0, 9, 15, 21⟩ [] htab (fun z hz => by
    rcases List.mem_singleton.mp hz with rfl
    · exact Or.inr ⟨by decide, _, htl _ mL_7, hN.2.2.2.2.2.2⟩) (by decide) (by decide) (htl _ mL_13) (va_Nw.use rfl (hN.1.2.1 _ (List.mem_of_getElem? (i := 6) rfl))) hcell hv hcl ?_
  refine lv_astore_n (lv' := [(3, .ref q9), (0, .ref (A 0)), (1, .int x1), (2, .ref o)]) hx hb d_L_wagon_15 rfl hl (by decide) rfl (fun ls hl => ?_)
  refine lv_iconst (v := 2) hx hb d_L_wagon_16 (by decide) ?_
  refine W.cs (cells' := 1) (slots' := 6) rfl rfl ?_
  exact kb_iret hx hb hr hw hlocks d_L_wagon_17
set_option maxHeartbeats 4000000 in
set_option maxRecDepth 100000 in
theorem n_L_load (l : Launch) (D : va_G) (o : Nat) (cO : ClassId) (f : Nat → Int64) (A : Nat → Nat) (G : Nat → ClassId) (x1 : Int32) (M0 : Nat → Nat → Int32) (r : Int32) (M' : Nat → Nat → Int32) (sz : Nat) (h : f_P_load x1 M0 = some (r, M')) : Met l y_L_load (Cond.codeWith y_L_load method_15_code 4 (some .int) [(0, 9, 12, 19), (0, 9, 15, 26), (0, 9, 18, 21)] :: wsH) { frames := 4, cells := 0, slots := 0, locals := 86 } (va_Pc [.ref (A 0), .int x1, .ref o] (kb_pre D kcl (tyH cO G) (wH o cO f A G M0) nnC sz)) (va_Qi (fun r' (_ : Unit) => r' = 0) (fun _ t => kb_post D kcl (tyH cO G) (wH o cO f A G M0) (wH o cO (vp_updL f 0 r.toInt64) A G M') sz t) (va_A (wH o cO f A G M0) sz)) 0 0 (va_A (wH o cO f A G M0) sz) := by
  refine va_MetW (cc := b_L_load) (maxL := 4) (ret := (some .int)) (hh := [(0, 9, 12, 19), (0, 9, 15, 26), (0, 9, 18, 21)]) (by decide) rfl ?_
  intro p e s m args below meth c s₁ B hml hv
  obtain ⟨rfl, hpre⟩ := hv
  obtain ⟨hw, hN⟩ := kb_enter hpre
  have hx := B.exec
  have hb := B.bytes
  have hr := B.returns
  have hts := atoms_spec (ws := (Cond.codeWith y_L_load method_15_code 4 (some .int) [(0, 9, 12, 19), (0, 9, 15, 26), (0, 9, 18, 21)] :: wsH)) B.pre
  have hth : ∀ w ∈ wsH, w.before ([.ref (A 0), .int x1, .ref o] : List Value).toArray s = true := fun w h => hts w (List.mem_cons_of_mem _ h)
  have htl : ∀ w ∈ wsL, w.before ([.ref (A 0), .int x1, .ref o] : List Value).toArray s = true := fun w h => hth w (List.mem_append_left _ h)
  have htw : ∀ w ∈ wsC, w.before ([.ref (A 0), .int x1, .ref o] : List Value).toArray s = true := fun w h => hth w (List.mem_append_right _ (List.mem_append_left _ h))
  have hown : s.vm.findClass "PileLiftsLaw" = some m.cls := findClass_of_methodNamed B.named
  have hlocks := B.notSynchronized
  have hl := lv_entry ([.ref (A 0), .int x1, .ref o]) (n := 4) (Nat.le_of_ble_eq_true rfl)
  rw [lg_entry_eq]
  generalize (lg_sl ([.ref (A 0), .int x1, .ref o]) ++ List.replicate (4 - (lg_sl ([.ref (A 0), .int x1, .ref o])).length) Slot.unset).toArray = ls at hl ⊢
  have hl : lv_has ls 4 [(0, .ref (A 0)), (1, .int x1), (2, .ref o)] := hl
  refine lv_aload_n hx hb d_L_load_0 rfl (lv_at hl 2 rfl) ?_
  refine lv_iconst (v := 0) hx hb d_L_load_1 (by decide) ?_
  refine lv_aload_n hx hb d_L_load_2 rfl (lv_at hl 0 rfl) ?_
  refine lv_iload_n hx hb d_L_load_3 rfl (lv_at hl 1 rfl) ?_
  refine kb_calli (wc := wC A G M0) (wr := [(o, .inl (cO, 1, .inr (.inl f)))]) (w1 := wC A G M') (ws' := (wH o cO f A G M')) (va_runV (As := [.int x1]) (rest := [.int 0, .ref o]) ⟨hx, hb, hml, hown, hth⟩ (c_P_load l D A G x1 M0 _ _ s.heap.size h) ⟨callB_of 1 hth (wsH_C mC_224) rfl rfl rfl (htw _ mC_0) (htl _ mL_59) q_P_load ⟨by show 3 + 1 ≤ 4; omega, by show 8 + (3 + 11) + 64 ≤ 86; omega⟩, htw _ mC_222, htw _ mC_223⟩ (kb_preVh nnC_b hw [1, 2, 3, 4, 5, 6, 7, 8, 9, 10, 11, 12, 13, 14, 15, 16, 17] [1, 2, 3, 4, 5, 6, 7, 8, 9, 10, 11, 12, 13] rfl rfl (by decide) rfl (fun U hU hW => nnC_warm s U hW hN) 0 (wC_0 A G _) rfl) rfl rfl hl.1 rfl (lv_room (Nat.le_of_ble_eq_true rfl)) d_L_load_4 ⟨Nat.zero_le _, Nat.zero_le _⟩) hw [1, 2, 3, 4, 5, 6, 7, 8, 9, 10, 11, 12, 13, 14, 15, 16, 17] [0] rfl rfl (by decide) (by decide) rfl (fun H locs hw => ?_)
  refine W.cs (cells' := 0) (slots' := 0) rfl rfl ?_
  refine lv_i2l (v := r.toInt64) hx hb d_L_load_7 rfl ?_
  refine va_last hx hb hw.1 hw.2.1 hw.2.2.1 hw.2.2.2.1 0 0 rfl rfl (show ¬ ((0 : Int32) < 0 ∨ 1 ≤ (0 : Int32).toNatClampNeg) by decide) d_L_load_8 (fun H locs hP hD hS => ?_)
  have hw : kb_K D kcl (tyH cO G) (wH o cO (vp_updL f 0 r.toInt64) A G M') s (va_A (wH o cO f A G M0) sz) H locs := ⟨hw.1, hP, hD, hS, hw.2.2.2.2⟩
  refine lv_goto (tgt := 21) hx hb d_L_load_9 (by decide) ?_
  refine lv_iconst (v := 0) hx hb d_L_load_21 (by decide) ?_
  exact kb_iret hx hb hr hw hlocks d_L_load_22
set_option maxHeartbeats 4000000 in
set_option maxRecDepth 100000 in
theorem t0_L_load (l : Launch) (hlt : l.stackTraces = false) (D : va_G) (o : Nat) (cO : ClassId) (f : Nat → Int64) (A : Nat → Nat) (G : Nat → ClassId) (x1 : Int32) (M0 : Nat → Nat → Int32) (M' : Nat → Nat → Int32) (sz : Nat) (h : x_P_load x1 M0 = some (1, M')) : Met l y_L_load (Cond.codeWith y_L_load method_15_code 4 (some .int) [(0, 9, 12, 19), (0, 9, 15, 26), (0, 9, 18, 21)] :: wsH) { frames := 10, cells := 1, slots := 6, locals := 163 } (va_Pc [.ref (A 0), .int x1, .ref o] (kb_pre D kcl (tyH cO G) (wH o cO f A G M0) (eH (va_A (wH o cO f A G M0) sz)) sz)) (va_Qi (fun r' (_ : Unit) => r' = 1) (fun _ t => kb_post D kcl (tyH cO G) (wH o cO f A G M0) (wH o cO f A G M') sz t) (va_A (wH o cO f A G M0) sz)) 1 6 (va_A (wH o cO f A G M0) sz) := by
  refine va_MetW (cc := b_L_load) (maxL := 4) (ret := (some .int)) (hh := [(0, 9, 12, 19), (0, 9, 15, 26), (0, 9, 18, 21)]) (by decide) rfl ?_
  intro p e s m args below meth c s₁ B hml hv
  obtain ⟨rfl, hpre⟩ := hv
  obtain ⟨hw, hN⟩ := kb_enter hpre
  have hx := B.exec
  have hb := B.bytes
  have hr := B.returns
  have hts := atoms_spec (ws := (Cond.codeWith y_L_load method_15_code 4 (some .int) [(0, 9, 12, 19), (0, 9, 15, 26), (0, 9, 18, 21)] :: wsH)) B.pre
  have hth : ∀ w ∈ wsH, w.before ([.ref (A 0), .int x1, .ref o] : List Value).toArray s = true := fun w h => hts w (List.mem_cons_of_mem _ h)
  have htl : ∀ w ∈ wsL, w.before ([.ref (A 0), .int x1, .ref o] : List Value).toArray s = true := fun w h => hth w (List.mem_append_left _ h)
  have htw : ∀ w ∈ wsC, w.before ([.ref (A 0), .int x1, .ref o] : List Value).toArray s = true := fun w h => hth w (List.mem_append_right _ (List.mem_append_left _ h))
  have hown : s.vm.findClass "PileLiftsLaw" = some m.cls := findClass_of_methodNamed B.named
  have hlocks := B.notSynchronized
  have hl := lv_entry ([.ref (A 0), .int x1, .ref o]) (n := 4) (Nat.le_of_ble_eq_true rfl)
  rw [lg_entry_eq]
  generalize (lg_sl ([.ref (A 0), .int x1, .ref o]) ++ List.replicate (4 - (lg_sl ([.ref (A 0), .int x1, .ref o])).length) Slot.unset).toArray = ls at hl ⊢
  have hl : lv_has ls 4 [(0, .ref (A 0)), (1, .int x1), (2, .ref o)] := hl
  have htab := vx_table (x := y_L_load) B (hts _ List.mem_cons_self)
  refine lv_aload_n hx hb d_L_load_0 rfl (lv_at hl 2 rfl) ?_
  refine lv_iconst (v := 0) hx hb d_L_load_1 (by decide) ?_
  refine lv_aload_n hx hb d_L_load_2 rfl (lv_at hl 0 rfl) ?_
  refine lv_iload_n hx hb d_L_load_3 rfl (lv_at hl 1 rfl) ?_
  have hC : [1, 2, 3, 4, 5, 6, 7, 8, 9, 10, 11, 12, 13, 14, 15, 16, 17].map (fun i => (wH o cO f A G M0)[i]?) = (wC A G M0).map some := rfl
  have hF := va_free (wc := wC A G M0) hw.2.2.1 hw.2.2.2.1 hw.2.2.2.2 [1, 2, 3, 4, 5, 6, 7, 8, 9, 10, 11, 12, 13, 14, 15, 16, 17] hC
  refine vx_calli (vx_runV (As := [.int x1]) (rest := [.int 0, .ref o]) ⟨hx, hb, hml, hown, hth⟩ (xc_P_load l hlt D A G x1 M0 _ _ s.heap.size h) ⟨callB_of 1 hth (wsH_X mC_224) rfl rfl rfl (htw _ mC_0) (htl _ mL_59) q_P_load ⟨by show 9 + 1 ≤ 10; omega, by show 8 + (3 + 11) + 141 ≤ 163; omega⟩, htw _ mC_222, htw _ mC_223⟩ (kb_preVh (NN' := eeC (va_A (wC A G M0) s.heap.size)) eeC_blind hw [1, 2, 3, 4, 5, 6, 7, 8, 9, 10, 11, 12, 13, 14, 15, 16, 17] [1, 2, 3, 4, 5, 6, 7, 8, 9, 10, 11, 12, 13] rfl rfl (by decide) rfl (fun U hU hW => eeC_call hN.1 hW hU hw.2.2.2.1 hF) 0 (wC_0 A G _) rfl) rfl rfl hl.1 rfl (lv_room (Nat.le_of_ble_eq_true rfl)) d_L_load_4 ⟨Nat.le_refl 1, Nat.le_refl 6⟩) hw.2.2.2.1 (fun q _ h => hF q h) hF (fun q _ h => hF q h) (fun E ce q9 u t H1 locs1 ht hvm hp hB hz hk hS hcell hv hcl => ?_) (fun r9 u t H1 locs1 ht hvm hp => hp.elim)
  obtain ⟨rfl, hpost⟩ := hB
  have hw : kb_K D kcl (tyH cO G) (wH o cO f A G M') s (va_A (wH o cO f A G M0) sz) H1 locs1 := kb_behind (wr := [(o, .inl (cO, 1, .inr (.inl f)))]) (w1 := wC A G M') hw [1, 2, 3, 4, 5, 6, 7, 8, 9, 10, 11, 12, 13, 14, 15, 16, 17] [0] hC rfl (by decide) (by decide) rfl ht hpost hk hS
  refine vx_catch (name := kb_ex 1) hown [] ⟨0, 9, 12, 19⟩ [⟨0, 9, 15, 26⟩, ⟨0, 9, 18, 21⟩] htab (fun z hz => by cases hz) (by decide) (by decide) (htl _ mL_12) (va_Nw.use rfl (hN.1.2.1 _ (List.mem_of_getElem? (i := 3) rfl))) hcell hv hcl ?_
  refine lv_astore_n (lv' := [(3, .ref q9), (0, .ref (A 0)), (1, .int x1), (2, .ref o)]) hx hb d_L_load_12 rfl hl (by decide) rfl (fun ls hl => ?_)
  refine lv_iconst (v := 1) hx hb d_L_load_13 (by decide) ?_
  refine W.cs (cells' := 1) (slots' := 6) rfl rfl ?_
  exact kb_iret hx hb hr hw hlocks d_L_load_14
set_option maxHeartbeats 4000000 in
set_option maxRecDepth 100000 in
theorem t1_L_load (l : Launch) (hlt : l.stackTraces = false) (D : va_G) (o : Nat) (cO : ClassId) (f : Nat → Int64) (A : Nat → Nat) (G : Nat → ClassId) (x1 : Int32) (M0 : Nat → Nat → Int32) (M' : Nat → Nat → Int32) (sz : Nat) (h : x_P_load x1 M0 = some (2, M')) : Met l y_L_load (Cond.codeWith y_L_load method_15_code 4 (some .int) [(0, 9, 12, 19), (0, 9, 15, 26), (0, 9, 18, 21)] :: wsH) { frames := 10, cells := 1, slots := 6, locals := 163 } (va_Pc [.ref (A 0), .int x1, .ref o] (kb_pre D kcl (tyH cO G) (wH o cO f A G M0) (eH (va_A (wH o cO f A G M0) sz)) sz)) (va_Qi (fun r' (_ : Unit) => r' = 2) (fun _ t => kb_post D kcl (tyH cO G) (wH o cO f A G M0) (wH o cO f A G M') sz t) (va_A (wH o cO f A G M0) sz)) 1 6 (va_A (wH o cO f A G M0) sz) := by
  refine va_MetW (cc := b_L_load) (maxL := 4) (ret := (some .int)) (hh := [(0, 9, 12, 19), (0, 9, 15, 26), (0, 9, 18, 21)]) (by decide) rfl ?_
  intro p e s m args below meth c s₁ B hml hv
  obtain ⟨rfl, hpre⟩ := hv
  obtain ⟨hw, hN⟩ := kb_enter hpre
  have hx := B.exec
  have hb := B.bytes
  have hr := B.returns
  have hts := atoms_spec (ws := (Cond.codeWith y_L_load method_15_code 4 (some .int) [(0, 9, 12, 19), (0, 9, 15, 26), (0, 9, 18, 21)] :: wsH)) B.pre
  have hth : ∀ w ∈ wsH, w.before ([.ref (A 0), .int x1, .ref o] : List Value).toArray s = true := fun w h => hts w (List.mem_cons_of_mem _ h)
  have htl : ∀ w ∈ wsL, w.before ([.ref (A 0), .int x1, .ref o] : List Value).toArray s = true := fun w h => hth w (List.mem_append_left _ h)
  have htw : ∀ w ∈ wsC, w.before ([.ref (A 0), .int x1, .ref o] : List Value).toArray s = true := fun w h => hth w (List.mem_append_right _ (List.mem_append_left _ h))
  have hown : s.vm.findClass "PileLiftsLaw" = some m.cls := findClass_of_methodNamed B.named
  have hlocks := B.notSynchronized
  have hl := lv_entry ([.ref (A 0), .int x1, .ref o]) (n := 4) (Nat.le_of_ble_eq_true rfl)
  rw [lg_entry_eq]
  generalize (lg_sl ([.ref (A 0), .int x1, .ref o]) ++ List.replicate (4 - (lg_sl ([.ref (A 0), .int x1, .ref o])).length) Slot.unset).toArray = ls at hl ⊢
  have hl : lv_has ls 4 [(0, .ref (A 0)), (1, .int x1), (2, .ref o)] := hl
  have htab := vx_table (x := y_L_load) B (hts _ List.mem_cons_self)
  refine lv_aload_n hx hb d_L_load_0 rfl (lv_at hl 2 rfl) ?_
  refine lv_iconst (v := 0) hx hb d_L_load_1 (by decide) ?_
  refine lv_aload_n hx hb d_L_load_2 rfl (lv_at hl 0 rfl) ?_
  refine lv_iload_n hx hb d_L_load_3 rfl (lv_at hl 1 rfl) ?_
  have hC : [1, 2, 3, 4, 5, 6, 7, 8, 9, 10, 11, 12, 13, 14, 15, 16, 17].map (fun i => (wH o cO f A G M0)[i]?) = (wC A G M0).map some := rfl
  have hF := va_free (wc := wC A G M0) hw.2.2.1 hw.2.2.2.1 hw.2.2.2.2 [1, 2, 3, 4, 5, 6, 7, 8, 9, 10, 11, 12, 13, 14, 15, 16, 17] hC
  refine vx_calli (vx_runV (As := [.int x1]) (rest := [.int 0, .ref o]) ⟨hx, hb, hml, hown, hth⟩ (xc_P_load l hlt D A G x1 M0 _ _ s.heap.size h) ⟨callB_of 1 hth (wsH_X mC_224) rfl rfl rfl (htw _ mC_0) (htl _ mL_59) q_P_load ⟨by show 9 + 1 ≤ 10; omega, by show 8 + (3 + 11) + 141 ≤ 163; omega⟩, htw _ mC_222, htw _ mC_223⟩ (kb_preVh (NN' := eeC (va_A (wC A G M0) s.heap.size)) eeC_blind hw [1, 2, 3, 4, 5, 6, 7, 8, 9, 10, 11, 12, 13, 14, 15, 16, 17] [1, 2, 3, 4, 5, 6, 7, 8, 9, 10, 11, 12, 13] rfl rfl (by decide) rfl (fun U hU hW => eeC_call hN.1 hW hU hw.2.2.2.1 hF) 0 (wC_0 A G _) rfl) rfl rfl hl.1 rfl (lv_room (Nat.le_of_ble_eq_true rfl)) d_L_load_4 ⟨Nat.le_refl 1, Nat.le_refl 6⟩) hw.2.2.2.1 (fun q _ h => hF q h) hF (fun q _ h => hF q h) (fun E ce q9 u t H1 locs1 ht hvm hp hB hz hk hS hcell hv hcl => ?_) (fun r9 u t H1 locs1 ht hvm hp => hp.elim)
  obtain ⟨rfl, hpost⟩ := hB
  have hw : kb_K D kcl (tyH cO G) (wH o cO f A G M') s (va_A (wH o cO f A G M0) sz) H1 locs1 := kb_behind (wr := [(o, .inl (cO, 1, .inr (.inl f)))]) (w1 := wC A G M') hw [1, 2, 3, 4, 5, 6, 7, 8, 9, 10, 11, 12, 13, 14, 15, 16, 17] [0] hC rfl (by decide) (by decide) rfl ht hpost hk hS
  refine vx_catch (name := kb_ex 2) hown [⟨0, 9, 12, 19⟩] ⟨0, 9, 15, 26⟩ [⟨0, 9, 18, 21⟩] htab (fun z hz => by
    rcases List.mem_singleton.mp hz with rfl
    · exact Or.inr ⟨by decide, _, htl _ mL_12, hN.2.1⟩) (by decide) (by decide) (htl _ mL_18) (va_Nw.use rfl (hN.1.2.1 _ (List.mem_of_getElem? (i := 4) rfl))) hcell hv hcl ?_
  refine lv_astore_n (lv' := [(3, .ref q9), (0, .ref (A 0)), (1, .int x1), (2, .ref o)]) hx hb d_L_load_15 rfl hl (by decide) rfl (fun ls hl => ?_)
  refine lv_iconst (v := 2) hx hb d_L_load_16 (by decide) ?_
  refine W.cs (cells' := 1) (slots' := 6) rfl rfl ?_
  exact kb_iret hx hb hr hw hlocks d_L_load_17
set_option maxHeartbeats 4000000 in
set_option maxRecDepth 100000 in
theorem t2_L_load (l : Launch) (hlt : l.stackTraces = false) (D : va_G) (o : Nat) (cO : ClassId) (f : Nat → Int64) (A : Nat → Nat) (G : Nat → ClassId) (x1 : Int32) (M0 : Nat → Nat → Int32) (M' : Nat → Nat → Int32) (sz : Nat) (h : x_P_load x1 M0 = some (4, M')) : Met l y_L_load (Cond.codeWith y_L_load method_15_code 4 (some .int) [(0, 9, 12, 19), (0, 9, 15, 26), (0, 9, 18, 21)] :: wsH) { frames := 10, cells := 1, slots := 6, locals := 163 } (va_Pc [.ref (A 0), .int x1, .ref o] (kb_pre D kcl (tyH cO G) (wH o cO f A G M0) (eH (va_A (wH o cO f A G M0) sz)) sz)) (va_Qi (fun r' (_ : Unit) => r' = 3) (fun _ t => kb_post D kcl (tyH cO G) (wH o cO f A G M0) (wH o cO f A G M') sz t) (va_A (wH o cO f A G M0) sz)) 1 6 (va_A (wH o cO f A G M0) sz) := by
  refine va_MetW (cc := b_L_load) (maxL := 4) (ret := (some .int)) (hh := [(0, 9, 12, 19), (0, 9, 15, 26), (0, 9, 18, 21)]) (by decide) rfl ?_
  intro p e s m args below meth c s₁ B hml hv
  obtain ⟨rfl, hpre⟩ := hv
  obtain ⟨hw, hN⟩ := kb_enter hpre
  have hx := B.exec
  have hb := B.bytes
  have hr := B.returns
  have hts := atoms_spec (ws := (Cond.codeWith y_L_load method_15_code 4 (some .int) [(0, 9, 12, 19), (0, 9, 15, 26), (0, 9, 18, 21)] :: wsH)) B.pre
  have hth : ∀ w ∈ wsH, w.before ([.ref (A 0), .int x1, .ref o] : List Value).toArray s = true := fun w h => hts w (List.mem_cons_of_mem _ h)
  have htl : ∀ w ∈ wsL, w.before ([.ref (A 0), .int x1, .ref o] : List Value).toArray s = true := fun w h => hth w (List.mem_append_left _ h)
  have htw : ∀ w ∈ wsC, w.before ([.ref (A 0), .int x1, .ref o] : List Value).toArray s = true := fun w h => hth w (List.mem_append_right _ (List.mem_append_left _ h))
  have hown : s.vm.findClass "PileLiftsLaw" = some m.cls := findClass_of_methodNamed B.named
  have hlocks := B.notSynchronized
  have hl := lv_entry ([.ref (A 0), .int x1, .ref o]) (n := 4) (Nat.le_of_ble_eq_true rfl)
  rw [lg_entry_eq]
  generalize (lg_sl ([.ref (A 0), .int x1, .ref o]) ++ List.replicate (4 - (lg_sl ([.ref (A 0), .int x1, .ref o])).length) Slot.unset).toArray = ls at hl ⊢
  have hl : lv_has ls 4 [(0, .ref (A 0)), (1, .int x1), (2, .ref o)] := hl
  have htab := vx_table (x := y_L_load) B (hts _ List.mem_cons_self)
  refine lv_aload_n hx hb d_L_load_0 rfl (lv_at hl 2 rfl) ?_
  refine lv_iconst (v := 0) hx hb d_L_load_1 (by decide) ?_
  refine lv_aload_n hx hb d_L_load_2 rfl (lv_at hl 0 rfl) ?_
  refine lv_iload_n hx hb d_L_load_3 rfl (lv_at hl 1 rfl) ?_
  have hC : [1, 2, 3, 4, 5, 6, 7, 8, 9, 10, 11, 12, 13, 14, 15, 16, 17].map (fun i => (wH o cO f A G M0)[i]?) = (wC A G M0).map some := rfl
  have hF := va_free (wc := wC A G M0) hw.2.2.1 hw.2.2.2.1 hw.2.2.2.2 [1, 2, 3, 4, 5, 6, 7, 8, 9, 10, 11, 12, 13, 14, 15, 16, 17] hC
  refine vx_calli (vx_runV (As := [.int x1]) (rest := [.int 0, .ref o]) ⟨hx, hb, hml, hown, hth⟩ (xc_P_load l hlt D A G x1 M0 _ _ s.heap.size h) ⟨callB_of 1 hth (wsH_X mC_224) rfl rfl rfl (htw _ mC_0) (htl _ mL_59) q_P_load ⟨by show 9 + 1 ≤ 10; omega, by show 8 + (3 + 11) + 141 ≤ 163; omega⟩, htw _ mC_222, htw _ mC_223⟩ (kb_preVh (NN' := eeC (va_A (wC A G M0) s.heap.size)) eeC_blind hw [1, 2, 3, 4, 5, 6, 7, 8, 9, 10, 11, 12, 13, 14, 15, 16, 17] [1, 2, 3, 4, 5, 6, 7, 8, 9, 10, 11, 12, 13] rfl rfl (by decide) rfl (fun U hU hW => eeC_call hN.1 hW hU hw.2.2.2.1 hF) 0 (wC_0 A G _) rfl) rfl rfl hl.1 rfl (lv_room (Nat.le_of_ble_eq_true rfl)) d_L_load_4 ⟨Nat.le_refl 1, Nat.le_refl 6⟩) hw.2.2.2.1 (fun q _ h => hF q h) hF (fun q _ h => hF q h) (fun E ce q9 u t H1 locs1 ht hvm hp hB hz hk hS hcell hv hcl => ?_) (fun r9 u t H1 locs1 ht hvm hp => hp.elim)
  obtain ⟨rfl, hpost⟩ := hB
  have hw : kb_K D kcl (tyH cO G) (wH o cO f A G M') s (va_A (wH o cO f A G M0) sz) H1 locs1 := kb_behind (wr := [(o, .inl (cO, 1, .inr (.inl f)))]) (w1 := wC A G M') hw [1, 2, 3, 4, 5, 6, 7, 8, 9, 10, 11, 12, 13, 14, 15, 16, 17] [0] hC rfl (by decide) (by decide) rfl ht hpost hk hS
  refine vx_catch (name := kb_ex 4) hown [⟨0, 9, 12, 19⟩, ⟨0, 9, 15, 26⟩] ⟨0, 9, 18, 21⟩ [] htab (fun z hz => by
    rcases (by simpa using hz : z = ⟨0, 9, 12, 19⟩ ∨ z = ⟨0, 9, 15, 26⟩) with rfl | rfl
    · exact Or.inr ⟨by decide, _, htl _ mL_12, hN.2.2.2.2.1⟩
    · exact Or.inr ⟨by decide, _, htl _ mL_18, hN.2.2.2.2.2.1⟩) (by decide) (by decide) (htl _ mL_13) (va_Nw.use rfl (hN.1.2.1 _ (List.mem_of_getElem? (i := 6) rfl))) hcell hv hcl ?_
  refine lv_astore_n (lv' := [(3, .ref q9), (0, .ref (A 0)), (1, .int x1), (2, .ref o)]) hx hb d_L_load_18 rfl hl (by decide) rfl (fun ls hl => ?_)
  refine lv_iconst (v := 3) hx hb d_L_load_19 (by decide) ?_
  refine W.cs (cells' := 1) (slots' := 6) rfl rfl ?_
  exact kb_iret hx hb hr hw hlocks d_L_load_20
