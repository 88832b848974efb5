def f_M_thrown (M0 : Nat → Nat → Int32) : Option (Int32 × (Nat → Nat → Int32)) := some ((M0 0 0), M0)
set_option maxHeartbeats 4000000 in
set_option maxRecDepth 100000 in
theorem c_M_thrown (l : Launch) (D : va_G) (A : Nat → Nat) (G : Nat → ClassId) (M0 : Nat → Nat → Int32) (r : Int32) (M' : Nat → Nat → Int32) (sz : Nat) (h : f_M_thrown M0 = some (r, M')) : kb_Ci l y_M_thrown (Cond.code y_M_thrown b_M_thrown 1 (some .int) :: wsM) { frames := 0, cells := 0, slots := 0, locals := 0 } [.ref (A 0)] D kcl (tyM G) (wM A G M0) (wM A G M') nnM sz r := by
  refine Met.ofW (cc := b_M_thrown) (maxL := 1) (ret := (some .int)) (by decide) rfl ?_
  intro p e s m args below meth c s₁ B hml hv
  obtain ⟨rfl, hpre⟩ := hv
  obtain ⟨hw, hN⟩ := kb_enter hpre
  have hx := B.exec
  have hb := B.bytes
  have hr := B.returns
  have hts := atoms_spec (ws := (Cond.code y_M_thrown b_M_thrown 1 (some .int) :: wsM)) B.pre
  have htw : ∀ w ∈ wsM, w.before ([.ref (A 0)] : List Value).toArray s = true := fun w h => hts w (List.mem_cons_of_mem _ h)
  have hown : s.vm.findClass "PileLiftsModel" = some m.cls := findClass_of_methodNamed B.named
  have hlocks := B.notSynchronized
  have hl := lv_entry ([.ref (A 0)]) (n := 1) (Nat.le_of_ble_eq_true rfl)
  rw [lg_entry_eq]
  generalize (lg_sl ([.ref (A 0)]) ++ List.replicate (1 - (lg_sl ([.ref (A 0)])).length) Slot.unset).toArray = ls at hl ⊢
  have hl : lv_has ls 1 [(0, .ref (A 0))] := hl
  rw [f_M_thrown] at h
  refine lv_aload_n hx hb d_M_thrown_0 rfl (lv_at hl 0 rfl) ?_
  refine kb_get (own := "PileLiftsModel") (ref := "PileLiftsModel") (C := R_M) (T := F_M) (N := 22) hx hb htw i_M hown hw 0 (wM_0 A G _) rfl 0 (by decide) (htw _ mM_5) rfl rfl d_M_thrown_1 ?_
  obtain ⟨rfl, rfl⟩ := kb_rt h
  exact kb_iret hx hb hr hw hlocks d_M_thrown_4
def f_M_in (x0 x1 x2 : Int32) (M0 : Nat → Nat → Int32) : Option (Int32 × (Nat → Nat → Int32)) := (if x0 < x1 then some ((0 : Int32), M0) else (if x2 < x0 then some ((0 : Int32), M0) else some ((1 : Int32), M0)))
set_option maxHeartbeats 4000000 in
set_option maxRecDepth 100000 in
theorem c_M_in (l : Launch) (D : va_G) (A : Nat → Nat) (G : Nat → ClassId) (x0 x1 x2 : Int32) (M0 : Nat → Nat → Int32) (r : Int32) (M' : Nat → Nat → Int32) (sz : Nat) (h : f_M_in x0 x1 x2 M0 = some (r, M')) : kb_Ci l y_M_in (Cond.code y_M_in b_M_in 3 (some .boolean) :: wsM) { frames := 0, cells := 0, slots := 0, locals := 0 } [.int x0, .int x1, .int x2] D kcl (tyM G) (wM A G M0) (wM A G M') nnM sz r := by
  refine Met.ofW (cc := b_M_in) (maxL := 3) (ret := (some .boolean)) (by decide) rfl ?_
  intro p e s m args below meth c s₁ B hml hv
  obtain ⟨rfl, hpre⟩ := hv
  obtain ⟨hw, hN⟩ := kb_enter hpre
  have hx := B.exec
  have hb := B.bytes
  have hr := B.returns
  have hts := atoms_spec (ws := (Cond.code y_M_in b_M_in 3 (some .boolean) :: wsM)) B.pre
  have htw : ∀ w ∈ wsM, w.before ([.int x0, .int x1, .int x2] : List Value).toArray s = true := fun w h => hts w (List.mem_cons_of_mem _ h)
  have hown : s.vm.findClass "PileLiftsModel" = some m.cls := findClass_of_methodNamed B.named
  have hlocks := B.notSynchronized
  have hl := lv_entry ([.int x0, .int x1, .int x2]) (n := 3) (Nat.le_of_ble_eq_true rfl)
  rw [lg_entry_eq]
  generalize (lg_sl ([.int x0, .int x1, .int x2]) ++ List.replicate (3 - (lg_sl ([.int x0, .int x1, .int x2])).length) Slot.unset).toArray = ls at hl ⊢
  have hl : lv_has ls 3 [(0, .int x0), (1, .int x1), (2, .int x2)] := hl
  rw [f_M_in] at h
  refine lv_iload_n hx hb d_M_in_0 rfl (lv_at hl 0 rfl) ?_
  refine lv_iload_n hx hb d_M_in_1 rfl (lv_at hl 1 rfl) ?_
  refine lv_icmp_lt (tgt := 14) hx hb d_M_in_2 (by decide) (fun c => ?_) (fun c => ?_)
  · have h := kb_ip c h
    refine lv_iconst (v := 0) hx hb d_M_in_14 (by decide) ?_
    obtain ⟨rfl, rfl⟩ := kb_rt h
    exact kb_zret hx hb hr hw hlocks (Or.inl rfl) d_M_in_15
  · have h := kb_in c h
    refine lv_iload_n hx hb d_M_in_5 rfl (lv_at hl 0 rfl) ?_
    refine lv_iload_n hx hb d_M_in_6 rfl (lv_at hl 2 rfl) ?_
    refine lv_icmp_gt (tgt := 14) hx hb d_M_in_7 (by decide) (fun c => ?_) (fun c => ?_)
    · have h := kb_ip c h
      refine lv_iconst (v := 0) hx hb d_M_in_14 (by decide) ?_
      obtain ⟨rfl, rfl⟩ := kb_rt h
      exact kb_zret hx hb hr hw hlocks (Or.inl rfl) d_M_in_15
    · have h := kb_in c h
      refine lv_iconst (v := 1) hx hb d_M_in_10 (by decide) ?_
      refine lv_goto (tgt := 15) hx hb d_M_in_11 (by decide) ?_
      obtain ⟨rfl, rfl⟩ := kb_rt h
      exact kb_zret hx hb hr hw hlocks (Or.inr rfl) d_M_in_15
def h_M_goes_26 (w0 : Int32) (M : Nat → Nat → Int32) : Option (Int32 × (Nat → Nat → Int32)) := kb_st (kb_up M 0 (upd (M 0) 0 w0)) (fun M1 => (if (M1 0 0) = (0 : Int32) then some ((1 : Int32), M1) else some ((0 : Int32), M1)))
def f_M_goes (x1 x2 x3 : Int32) (M0 : Nat → Nat → Int32) : Option (Int32 × (Nat → Nat → Int32)) := (if x1 = (0 : Int32) then h_M_goes_26 (1 : Int32) M0 else (if x2 = (0 : Int32) then h_M_goes_26 (2 : Int32) M0 else (if x3 = (0 : Int32) then h_M_goes_26 (3 : Int32) M0 else h_M_goes_26 (0 : Int32) M0)))
set_option maxHeartbeats 4000000 in
set_option maxRecDepth 100000 in
theorem c_M_goes (l : Launch) (D : va_G) (A : Nat → Nat) (G : Nat → ClassId) (x1 x2 x3 : Int32) (M0 : Nat → Nat → Int32) (r : Int32) (M' : Nat → Nat → Int32) (sz : Nat) (h : f_M_goes x1 x2 x3 M0 = some (r, M')) : kb_Ci l y_M_goes (Cond.code y_M_goes b_M_goes 4 (some .boolean) :: wsM) { frames := 0, cells := 0, slots := 0, locals := 0 } [.ref (A 0), .int x1, .int x2, .int x3] D kcl (tyM G) (wM A G M0) (wM A G M') nnM sz r := by
  refine Met.ofW (cc := b_M_goes) (maxL := 4) (ret := (some .boolean)) (by decide) rfl ?_
  intro p e s m args below meth c s₁ B hml hv
  obtain ⟨rfl, hpre⟩ := hv
  obtain ⟨hw, hN⟩ := kb_enter hpre
  have hx := B.exec
  have hb := B.bytes
  have hr := B.returns
  have hts := atoms_spec (ws := (Cond.code y_M_goes b_M_goes 4 (some .boolean) :: wsM)) B.pre
  have htw : ∀ w ∈ wsM, w.before ([.ref (A 0), .int x1, .int x2, .int x3] : List Value).toArray s = true := fun w h => hts w (List.mem_cons_of_mem _ h)
  have hown : s.vm.findClass "PileLiftsModel" = some m.cls := findClass_of_methodNamed B.named
  have hlocks := B.notSynchronized
  have loop_26 : ∀ (w0 : Int32) (M : Nat → Nat → Int32) (H : Heap) (locs : List Loc) (ls : Array Slot), h_M_goes_26 w0 M = some (r, M') → kb_K D kcl (tyM G) (wM A G M) s (va_A (wM A G M0) sz) H locs → lv_has ls 4 [(0, .ref (A 0))] → W p l e (headSpec (Cond.code y_M_goes b_M_goes 4 (some .boolean) :: wsM) { frames := 0, cells := 0, slots := 0, locals := 0 }).room s m ([.ref (A 0), .int x1, .int x2, .int x3] : List Value).toArray below meth c H locs 0 0 (kb_Qi D kcl (tyM G) (wM A G M0) (wM A G M') sz r below ([.ref (A 0), .int x1, .int x2, .int x3] : List Value).toArray s) (F0 m 26 ls [.int w0, .ref (A 0)]) := by
    intro w0 M H locs ls h hw hl
    rw [h_M_goes_26] at h
    obtain ⟨M1, eM1, h⟩ := kb_st_some h
    refine kb_put (ws' := (wM A G M1)) (own := "PileLiftsModel") (ref := "PileLiftsModel") (C := R_M) (T := F_M) (N := 22) (ty := .int) hx hb htw i_M t_M t_M_ok n_M hown hw 0 (wM_0 A G _) rfl 0 (by decide) (htw _ mM_5) rfl rfl (by decide +kernel) rfl rfl (Nat.le_of_ble_eq_true rfl) d_M_goes_26 (by rw [eM1]; rfl) (fun H locs hw => ?_)
    refine lv_aload_n hx hb d_M_goes_29 rfl (lv_at hl 0 rfl) ?_
    refine kb_get (own := "PileLiftsModel") (ref := "PileLiftsModel") (C := R_M) (T := F_M) (N := 22) hx hb htw i_M hown hw 0 (wM_0 A G _) rfl 0 (by decide) (htw _ mM_5) rfl rfl d_M_goes_30 ?_
    refine lv_if_ne (tgt := 40) hx hb d_M_goes_33 (by decide) (fun c => ?_) (fun c => ?_)
    · have h := kb_in c h
      refine lv_iconst (v := 0) hx hb d_M_goes_40 (by decide) ?_
      obtain ⟨rfl, rfl⟩ := kb_rt h
      exact kb_zret hx hb hr hw hlocks (Or.inl rfl) d_M_goes_41
    · have h := kb_ip c h
      refine lv_iconst (v := 1) hx hb d_M_goes_36 (by decide) ?_
      refine lv_goto (tgt := 41) hx hb d_M_goes_37 (by decide) ?_
      obtain ⟨rfl, rfl⟩ := kb_rt h
      exact kb_zret hx hb hr hw hlocks (Or.inr rfl) d_M_goes_41
  have hl := lv_entry ([.ref (A 0), .int x1, .int x2, .int x3]) (n := 4) (Nat.le_of_ble_eq_true rfl)
  rw [lg_entry_eq]
  generalize (lg_sl ([.ref (A 0), .int x1, .int x2, .int x3]) ++ List.replicate (4 - (lg_sl ([.ref (A 0), .int x1, .int x2, .int x3])).length) Slot.unset).toArray = ls at hl ⊢
  have hl : lv_has ls 4 [(0, .ref (A 0)), (1, .int x1), (2, .int x2), (3, .int x3)] := hl
  rw [f_M_goes] at h
  refine lv_aload_n hx hb d_M_goes_0 rfl (lv_at hl 0 rfl) ?_
  refine lv_iload_n hx hb d_M_goes_1 rfl (lv_at hl 1 rfl) ?_
  refine lv_if_ne (tgt := 9) hx hb d_M_goes_2 (by decide) (fun c => ?_) (fun c => ?_)
  · have h := kb_in c h
    refine lv_iload_n hx hb d_M_goes_9 rfl (lv_at hl 2 rfl) ?_
    refine lv_if_ne (tgt := 17) hx hb d_M_goes_10 (by decide) (fun c => ?_) (fun c => ?_)
    · have h := kb_in c h
      refine lv_iload_n hx hb d_M_goes_17 rfl (lv_at hl 3 rfl) ?_
      refine lv_if_ne (tgt := 25) hx hb d_M_goes_18 (by decide) (fun c => ?_) (fun c => ?_)
      · have h := kb_in c h
        refine lv_iconst (v := 0) hx hb d_M_goes_25 (by decide) ?_
        exact loop_26 (0 : Int32) M0 _ _ _ h hw (lv_sub hl [0] rfl)
      · have h := kb_ip c h
        refine lv_iconst (v := 3) hx hb d_M_goes_21 (by decide) ?_
        refine lv_goto (tgt := 26) hx hb d_M_goes_22 (by decide) ?_
        exact loop_26 (3 : Int32) M0 _ _ _ h hw (lv_sub hl [0] rfl)
    · have h := kb_ip c h
      refine lv_iconst (v := 2) hx hb d_M_goes_13 (by decide) ?_
      refine lv_goto (tgt := 26) hx hb d_M_goes_14 (by decide) ?_
      exact loop_26 (2 : Int32) M0 _ _ _ h hw (lv_sub hl [0] rfl)
  · have h := kb_ip c h
    refine lv_iconst (v := 1) hx hb d_M_goes_5 (by decide) ?_
    refine lv_goto (tgt := 26) hx hb d_M_goes_6 (by decide) ?_
    exact loop_26 (1 : Int32) M0 _ _ _ h hw (lv_sub hl [0] rfl)
def f_M_isPiece (x1 : Int32) (M0 : Nat → Nat → Int32) : Option (Int32 × (Nat → Nat → Int32)) := kb_cl (f_M_in x1 (0 : Int32) ((M0 0 3) - (1 : Int32)) M0) (fun r1 M2 => kb_bz r1 (some (r1, M2)))
set_option maxHeartbeats 4000000 in
set_option maxRecDepth 100000 in
theorem c_M_isPiece (l : Launch) (D : va_G) (A : Nat → Nat) (G : Nat → ClassId) (x1 : Int32) (M0 : Nat → Nat → Int32) (r : Int32) (M' : Nat → Nat → Int32) (sz : Nat) (h : f_M_isPiece x1 M0 = some (r, M')) : kb_Ci l y_M_isPiece (Cond.code y_M_isPiece b_M_isPiece 2 (some .boolean) :: wsM) { frames := 1, cells := 0, slots := 0, locals := 22 } [.ref (A 0), .int x1] D kcl (tyM G) (wM A G M0) (wM A G M') nnM sz r := by
  refine Met.ofW (cc := b_M_isPiece) (maxL := 2) (ret := (some .boolean)) (by decide) rfl ?_
  intro p e s m args below meth c s₁ B hml hv
  obtain ⟨rfl, hpre⟩ := hv
  obtain ⟨hw, hN⟩ := kb_enter hpre
  have hx := B.exec
  have hb := B.bytes
  have hr := B.returns
  have hts := atoms_spec (ws := (Cond.code y_M_isPiece b_M_isPiece 2 (some .boolean) :: wsM)) B.pre
  have htw : ∀ w ∈ wsM, w.before ([.ref (A 0), .int x1] : List Value).toArray s = true := fun w h => hts w (List.mem_cons_of_mem _ h)
  have hown : s.vm.findClass "PileLiftsModel" = some m.cls := findClass_of_methodNamed B.named
  have hlocks := B.notSynchronized
  have hl := lv_entry ([.ref (A 0), .int x1]) (n := 2) (Nat.le_of_ble_eq_true rfl)
  rw [lg_entry_eq]
  generalize (lg_sl ([.ref (A 0), .int x1]) ++ List.replicate (2 - (lg_sl ([.ref (A 0), .int x1])).length) Slot.unset).toArray = ls at hl ⊢
  have hl : lv_has ls 2 [(0, .ref (A 0)), (1, .int x1)] := hl
  rw [f_M_isPiece] at h
  refine lv_iload_n hx hb d_M_isPiece_0 rfl (lv_at hl 1 rfl) ?_
  refine lv_iconst (v := 0) hx hb d_M_isPiece_1 (by decide) ?_
  refine lv_aload_n hx hb d_M_isPiece_2 rfl (lv_at hl 0 rfl) ?_
  refine kb_get (own := "PileLiftsModel") (ref := "PileLiftsModel") (C := R_M) (T := F_M) (N := 22) hx hb htw i_M hown hw 0 (wM_0 A G _) rfl 3 (by decide) (htw _ mM_8) rfl rfl d_M_isPiece_3 ?_
  refine lv_iconst (v := 1) hx hb d_M_isPiece_6 (by decide) ?_
  refine lv_isub hx hb d_M_isPiece_7 ?_
  obtain ⟨r1, M2, hc, h⟩ := kb_cl_some h
  refine kb_calli0 (va_runS (As := [.int x1, .int (0 : Int32), .int ((M0 0 3) - (1 : Int32))]) (rest := []) ⟨hx, hb, hml, hown, htw⟩ (c_M_in l D A G x1 (0 : Int32) ((M0 0 3) - (1 : Int32)) M0 _ _ s.heap.size hc) ⟨(callB_of 3 htw (wsM_self mM_57) rfl rfl rfl (htw _ mM_0) (htw _ mM_55) q_M_in ⟨by show 0 + 1 ≤ 1; omega, by show 8 + (3 + 11) + 0 ≤ 22; omega⟩), htw _ mM_56⟩ (kb_preS nnM_warm nnM_same hw hN ) rfl rfl hl.1 rfl (lv_room (Nat.le_of_ble_eq_true rfl)) d_M_isPiece_8 ⟨Nat.zero_le _, Nat.zero_le _⟩) hw (fun H locs hw => ?_)
  obtain ⟨hz, h⟩ := kb_bz_some h
  obtain ⟨rfl, rfl⟩ := kb_rt h
  exact kb_zret hx hb hr hw hlocks hz d_M_isPiece_11
def f_M_changed (M0 : Nat → Nat → Int32) : Option (Int32 × (Nat → Nat → Int32)) := kb_st (kb_up M0 0 (upd (M0 0) 15 (0 : Int32))) (fun M1 => kb_st (kb_up M1 0 (upd (M1 0) 17 (0 : Int32))) (fun M2 => some ((0 : Int32), M2)))
set_option maxHeartbeats 4000000 in
set_option maxRecDepth 100000 in
theorem c_M_changed (l : Launch) (D : va_G) (A : Nat → Nat) (G : Nat → ClassId) (M0 : Nat → Nat → Int32) (r : Int32) (M' : Nat → Nat → Int32) (sz : Nat) (h : f_M_changed M0 = some (r, M')) : kb_Cv l y_M_changed (Cond.code y_M_changed b_M_changed 1 none :: wsM) { frames := 0, cells := 0, slots := 0, locals := 0 } [.ref (A 0)] D kcl (tyM G) (wM A G M0) (wM A G M') nnM sz := by
  refine Met.ofW (cc := b_M_changed) (maxL := 1) (ret := none) (by decide) rfl ?_
  intro p e s m args below meth c s₁ B hml hv
  obtain ⟨rfl, hpre⟩ := hv
  obtain ⟨hw, hN⟩ := kb_enter hpre
  have hx := B.exec
  have hb := B.bytes
  have hr := B.returns
  have hts := atoms_spec (ws := (Cond.code y_M_changed b_M_changed 1 none :: wsM)) B.pre
  have htw : ∀ w ∈ wsM, w.before ([.ref (A 0)] : List Value).toArray s = true := fun w h => hts w (List.mem_cons_of_mem _ h)
  have hown : s.vm.findClass "PileLiftsModel" = some m.cls := findClass_of_methodNamed B.named
  have hlocks := B.notSynchronized
  have hl := lv_entry ([.ref (A 0)]) (n := 1) (Nat.le_of_ble_eq_true rfl)
  rw [lg_entry_eq]
  generalize (lg_sl ([.ref (A 0)]) ++ List.replicate (1 - (lg_sl ([.ref (A 0)])).length) Slot.unset).toArray = ls at hl ⊢
  have hl : lv_has ls 1 [(0, .ref (A 0))] := hl
  rw [f_M_changed] at h
  refine lv_aload_n hx hb d_M_changed_0 rfl (lv_at hl 0 rfl) ?_
  refine lv_iconst (v := 0) hx hb d_M_changed_1 (by decide) ?_
  obtain ⟨M1, eM1, h⟩ := kb_st_some h
  refine kb_put (ws' := (wM A G M1)) (own := "PileLiftsModel") (ref := "PileLiftsModel") (C := R_M) (T := F_M) (N := 22) (ty := .boolean) hx hb htw i_M t_M t_M_ok n_M hown hw 0 (wM_0 A G _) rfl 15 (by decide) (htw _ mM_20) rfl rfl (by decide +kernel) (kb_nz (Or.inl rfl)) (kb_fz (Or.inl rfl)) (Nat.le_of_ble_eq_true rfl) d_M_changed_2 (by rw [eM1]; rfl) (fun H locs hw => ?_)
  refine lv_aload_n hx hb d_M_changed_5 rfl (lv_at hl 0 rfl) ?_
  refine lv_iconst (v := 0) hx hb d_M_changed_6 (by decide) ?_
  obtain ⟨M2, eM2, h⟩ := kb_st_some h
  refine kb_put (ws' := (wM A G M2)) (own := "PileLiftsModel") (ref := "PileLiftsModel") (C := R_M) (T := F_M) (N := 22) (ty := .boolean) hx hb htw i_M t_M t_M_ok n_M hown hw 0 (wM_0 A G _) rfl 17 (by decide) (htw _ mM_22) rfl rfl (by decide +kernel) (kb_nz (Or.inl rfl)) (kb_fz (Or.inl rfl)) (Nat.le_of_ble_eq_true rfl) d_M_changed_7 (by rw [eM2]; rfl) (fun H locs hw => ?_)
  obtain ⟨-, rfl⟩ := kb_rt h
  exact kb_vret hx hb hr hw hlocks d_M_changed_10
def f_M_cell (x0 x1 x2 : Int32) (M0 : Nat → Nat → Int32) : Option (Int32 × (Nat → Nat → Int32)) := some (((((20 : Int32) * x0) + ((5 : Int32) * x1)) + x2), M0)
set_option maxHeartbeats 4000000 in
set_option maxRecDepth 100000 in
theorem c_M_cell (l : Launch) (D : va_G) (A : Nat → Nat) (G : Nat → ClassId) (x0 x1 x2 : Int32) (M0 : Nat → Nat → Int32) (r : Int32) (M' : Nat → Nat → Int32) (sz : Nat) (h : f_M_cell x0 x1 x2 M0 = some (r, M')) : kb_Ci l y_M_cell (Cond.code y_M_cell b_M_cell 3 (some .int) :: wsM) { frames := 0, cells := 0, slots := 0, locals := 0 } [.int x0, .int x1, .int x2] D kcl (tyM G) (wM A G M0) (wM A G M') nnM sz r := by
  refine Met.ofW (cc := b_M_cell) (maxL := 3) (ret := (some .int)) (by decide) rfl ?_
  intro p e s m args below meth c s₁ B hml hv
  obtain ⟨rfl, hpre⟩ := hv
  obtain ⟨hw, hN⟩ := kb_enter hpre
  have hx := B.exec
  have hb := B.bytes
  have hr := B.returns
  have hts := atoms_spec (ws := (Cond.code y_M_cell b_M_cell 3 (some .int) :: wsM)) B.pre
  have htw : ∀ w ∈ wsM, w.before ([.int x0, .int x1, .int x2] : List Value).toArray s = true := fun w h => hts w (List.mem_cons_of_mem _ h)
  have hown : s.vm.findClass "PileLiftsModel" = some m.cls := findClass_of_methodNamed B.named
  have hlocks := B.notSynchronized
  have hl := lv_entry ([.int x0, .int x1, .int x2]) (n := 3) (Nat.le_of_ble_eq_true rfl)
  rw [lg_entry_eq]
  generalize (lg_sl ([.int x0, .int x1, .int x2]) ++ List.replicate (3 - (lg_sl ([.int x0, .int x1, .int x2])).length) Slot.unset).toArray = ls at hl ⊢
  have hl : lv_has ls 3 [(0, .int x0), (1, .int x1), (2, .int x2)] := hl
  rw [f_M_cell] at h
  refine lv_bipush (v := 20) hx hb d_M_cell_0 (by decide) ?_
  refine lv_iload_n hx hb d_M_cell_2 rfl (lv_at hl 0 rfl) ?_
  refine lv_imul hx hb d_M_cell_3 ?_
  refine lv_iconst (v := 5) hx hb d_M_cell_4 (by decide) ?_
  refine lv_iload_n hx hb d_M_cell_5 rfl (lv_at hl 1 rfl) ?_
  refine lv_imul hx hb d_M_cell_6 ?_
  refine lv_iadd hx hb d_M_cell_7 ?_
  refine lv_iload_n hx hb d_M_cell_8 rfl (lv_at hl 2 rfl) ?_
  refine lv_iadd hx hb d_M_cell_9 ?_
  obtain ⟨rfl, rfl⟩ := kb_rt h
  exact kb_iret hx hb hr hw hlocks d_M_cell_10
def h_M_piles_62 : Nat → Int32 → (Nat → Nat → Int32) → Option (Int32 × (Nat → Nat → Int32))
  | 0, _, _ => none
  | n + 1, u3, M => (if (4 : Int32) ≤ u3 then kb_cl (f_M_changed M) (fun r10 M11 => some ((0 : Int32), M11)) else kb_wr M 6 60 u3 (0 : Int32) (fun M12 => h_M_piles_62 n (u3 + 1) M12))
def h_M_piles_24 (u1 u2 w0 : Int32) (M : Nat → Nat → Int32) : Option (Int32 × (Nat → Nat → Int32)) := kb_cl (f_M_goes w0 (1 : Int32) (1 : Int32) M) (fun r3 M4 => (if r3 = (0 : Int32) then some ((0 : Int32), M4) else kb_st (kb_up M4 0 (upd (M4 0) 1 u1)) (fun M5 => kb_st (kb_up M5 0 (upd (M5 0) 2 u2)) (fun M6 => kb_st (kb_up M6 0 (upd (M6 0) 3 (0 : Int32))) (fun M7 => kb_st (kb_up M7 0 (upd (M7 0) 19 (0 : Int32))) (fun M8 => kb_wr M8 7 15 (0 : Int32) (0 : Int32) (fun M9 => h_M_piles_62 kb_F (0 : Int32) M9)))))))
def h_M_piles_23 (u1 u2 : Int32) (M : Nat → Nat → Int32) : Option (Int32 × (Nat → Nat → Int32)) := h_M_piles_24 u1 u2 (0 : Int32) M
def f_M_piles (x1 x2 : Int32) (M0 : Nat → Nat → Int32) : Option (Int32 × (Nat → Nat → Int32)) := kb_cl (f_M_in x1 (1 : Int32) (4 : Int32) M0) (fun r1 M2 => (if r1 = (0 : Int32) then h_M_piles_23 x1 x2 M2 else kb_cl (f_M_in x2 (1 : Int32) (5 : Int32) M2) (fun r13 M14 => (if r13 = (0 : Int32) then h_M_piles_23 x1 x2 M14 else h_M_piles_24 x1 x2 (1 : Int32) M14))))
set_option maxHeartbeats 4000000 in
set_option maxRecDepth 100000 in
theorem c_M_piles (l : Launch) (D : va_G) (A : Nat → Nat) (G : Nat → ClassId) (x1 x2 : Int32) (M0 : Nat → Nat → Int32) (r : Int32) (M' : Nat → Nat → Int32) (sz : Nat) (h : f_M_piles x1 x2 M0 = some (r, M')) : kb_Cv l y_M_piles (Cond.code y_M_piles b_M_piles 4 none :: wsM) { frames := 1, cells := 0, slots := 0, locals := 23 } [.ref (A 0), .int x1, .int x2] D kcl (tyM G) (wM A G M0) (wM A G M') nnM sz := by
  refine Met.ofW (cc := b_M_piles) (maxL := 4) (ret := none) (by decide) rfl ?_
  intro p e s m args below meth c s₁ B hml hv
  obtain ⟨rfl, hpre⟩ := hv
  obtain ⟨hw, hN⟩ := kb_enter hpre
  have hx := B.exec
  have hb := B.bytes
  have hr := B.returns
  have hts := atoms_spec (ws := (Cond.code y_M_piles b_M_piles 4 none :: wsM)) B.pre
  have htw : ∀ w ∈ wsM, w.before ([.ref (A 0), .int x1, .int x2] : List Value).toArray s = true := fun w h => hts w (List.mem_cons_of_mem _ h)
  have hown : s.vm.findClass "PileLiftsModel" = some m.cls := findClass_of_methodNamed B.named
  have hlocks := B.notSynchronized
  have loop_62 : ∀ (n62 : Nat) (u3 : Int32) (M : Nat → Nat → Int32) (H : Heap) (locs : List Loc) (ls : Array Slot), h_M_piles_62 n62 u3 M = some (r, M') → kb_K D kcl (tyM G) (wM A G M) s (va_A (wM A G M0) sz) H locs → lv_has ls 4 [(0, .ref (A 0)), (3, .int u3)] → W p l e (headSpec (Cond.code y_M_piles b_M_piles 4 none :: wsM) { frames := 1, cells := 0, slots := 0, locals := 23 }).room s m ([.ref (A 0), .int x1, .int x2] : List Value).toArray below meth c H locs 0 0 (kb_Qv D kcl (tyM G) (wM A G M0) (wM A G M') sz below ([.ref (A 0), .int x1, .int x2] : List Value).toArray s) (F0 m 62 ls []) := by
    intro n62
    induction n62 with
    | zero =>
      intro u3 M H locs ls h
      cases h
    | succ n62 ih =>
      intro u3 M H locs ls h hw hl
      rw [h_M_piles_62] at h
      refine lv_iload_n hx hb d_M_piles_62 rfl (lv_at hl 1 rfl) ?_
      refine lv_iconst (v := 4) hx hb d_M_piles_63 (by decide) ?_
      refine lv_icmp_ge (tgt := 80) hx hb d_M_piles_64 (by decide) (fun c => ?_) (fun c => ?_)
      · have h := kb_ip c h
        refine lv_aload_n hx hb d_M_piles_80 rfl (lv_at hl 0 rfl) ?_
        obtain ⟨r10, M11, hc, h⟩ := kb_cl_some h
        refine kb_callv0 (va_runV (As := []) (rest := []) ⟨hx, hb, hml, hown, htw⟩ (c_M_changed l D A G M _ _ H.size hc) ⟨(callB_of 0 htw (wsM_self mM_63) rfl rfl rfl (htw _ mM_0) (htw _ mM_61) q_M_changed ⟨by show 0 + 1 ≤ 1; omega, by show 8 + (1 + 11) + 0 ≤ 23; omega⟩), htw _ mM_62, htw _ mM_150⟩ (kb_preV nnM_warm nnM_same hw hN 0 (wM_0 A G _) rfl) rfl rfl hl.1 rfl (lv_room (Nat.le_of_ble_eq_true rfl)) d_M_piles_81 ⟨Nat.zero_le _, Nat.zero_le _⟩) hw (fun H locs hw => ?_)
        obtain ⟨-, rfl⟩ := kb_rt h
        exact kb_vret hx hb hr hw hlocks d_M_piles_84
      · have h := kb_in c h
        refine lv_aload_n hx hb d_M_piles_67 rfl (lv_at hl 0 rfl) ?_
        refine kb_get (own := "PileLiftsModel") (ref := "PileLiftsModel") (C := R_M) (T := F_M) (N := 22) hx hb htw i_M hown hw 0 (wM_0 A G _) rfl 9 (by decide) (htw _ mM_14) rfl rfl d_M_piles_68 ?_
        refine lv_iload_n hx hb d_M_piles_71 rfl (lv_at hl 1 rfl) ?_
        refine lv_iconst (v := 0) hx hb d_M_piles_72 (by decide) ?_
        obtain ⟨M12, eM12, hi, h⟩ := kb_wr_some h
        refine kb_ast (ws' := (wM A G M12)) hx hb hw 6 5 rfl rfl hi d_M_piles_73 (by rw [eM12]; rfl) (fun H locs hw => ?_)
        refine lv_iinc (v := (u3 + 1)) (lv' := [(3, .int (u3 + 1)), (0, .ref (A 0))]) hx hb d_M_piles_74 hl (k := 1) rfl rfl (by decide) rfl (fun ls hl => ?_)
        refine lv_goto (tgt := 62) hx hb d_M_piles_77 (by decide) ?_
        exact ih (u3 + 1) M12 _ _ _ h hw (lv_sub hl [1, 0] rfl)
  have loop_24 : ∀ (u1 u2 w0 : Int32) (M : Nat → Nat → Int32) (H : Heap) (locs : List Loc) (ls : Array Slot), h_M_piles_24 u1 u2 w0 M = some (r, M') → kb_K D kcl (tyM G) (wM A G M) s (va_A (wM A G M0) sz) H locs → lv_has ls 4 [(0, .ref (A 0)), (1, .int u1), (2, .int u2)] → W p l e (headSpec (Cond.code y_M_piles b_M_piles 4 none :: wsM) { frames := 1, cells := 0, slots := 0, locals := 23 }).room s m ([.ref (A 0), .int x1, .int x2] : List Value).toArray below meth c H locs 0 0 (kb_Qv D kcl (tyM G) (wM A G M0) (wM A G M') sz below ([.ref (A 0), .int x1, .int x2] : List Value).toArray s) (F0 m 24 ls [.int w0, .ref (A 0)]) := by
    intro u1 u2 w0 M H locs ls h hw hl
    rw [h_M_piles_24] at h
    refine lv_iconst (v := 1) hx hb d_M_piles_24 (by decide) ?_
    refine lv_iconst (v := 1) hx hb d_M_piles_25 (by decide) ?_
    obtain ⟨r3, M4, hc, h⟩ := kb_cl_some h
    refine kb_calli0 (va_runV (As := [.int w0, .int (1 : Int32), .int (1 : Int32)]) (rest := []) ⟨hx, hb, hml, hown, htw⟩ (c_M_goes l D A G w0 (1 : Int32) (1 : Int32) M _ _ H.size hc) ⟨(callB_of 3 htw (wsM_self mM_60) rfl rfl rfl (htw _ mM_0) (htw _ mM_58) q_M_goes ⟨by show 0 + 1 ≤ 1; omega, by show 8 + (4 + 11) + 0 ≤ 23; omega⟩), htw _ mM_59, htw _ mM_149⟩ (kb_preV nnM_warm nnM_same hw hN 0 (wM_0 A G _) rfl) rfl rfl hl.1 rfl (lv_room (Nat.le_of_ble_eq_true rfl)) d_M_piles_26 ⟨Nat.zero_le _, Nat.zero_le _⟩) hw (fun H locs hw => ?_)
    refine lv_if_ne (tgt := 33) hx hb d_M_piles_29 (by decide) (fun c => ?_) (fun c => ?_)
    · have h := kb_in c h
      refine lv_aload_n hx hb d_M_piles_33 rfl (lv_at hl 0 rfl) ?_
      refine lv_iload_n hx hb d_M_piles_34 rfl (lv_at hl 1 rfl) ?_
      obtain ⟨M5, eM5, h⟩ := kb_st_some h
      refine kb_put (ws' := (wM A G M5)) (own := "PileLiftsModel") (ref := "PileLiftsModel") (C := R_M) (T := F_M) (N := 22) (ty := .int) hx hb htw i_M t_M t_M_ok n_M hown hw 0 (wM_0 A G _) rfl 1 (by decide) (htw _ mM_6) rfl rfl (by decide +kernel) rfl rfl (Nat.le_of_ble_eq_true rfl) d_M_piles_35 (by rw [eM5]; rfl) (fun H locs hw => ?_)
      refine lv_aload_n hx hb d_M_piles_38 rfl (lv_at hl 0 rfl) ?_
      refine lv_iload_n hx hb d_M_piles_39 rfl (lv_at hl 2 rfl) ?_
      obtain ⟨M6, eM6, h⟩ := kb_st_some h
      refine kb_put (ws' := (wM A G M6)) (own := "PileLiftsModel") (ref := "PileLiftsModel") (C := R_M) (T := F_M) (N := 22) (ty := .int) hx hb htw i_M t_M t_M_ok n_M hown hw 0 (wM_0 A G _) rfl 2 (by decide) (htw _ mM_7) rfl rfl (by decide +kernel) rfl rfl (Nat.le_of_ble_eq_true rfl) d_M_piles_40 (by rw [eM6]; rfl) (fun H locs hw => ?_)
      refine lv_aload_n hx hb d_M_piles_43 rfl (lv_at hl 0 rfl) ?_
      refine lv_iconst (v := 0) hx hb d_M_piles_44 (by decide) ?_
      obtain ⟨M7, eM7, h⟩ := kb_st_some h
      refine kb_put (ws' := (wM A G M7)) (own := "PileLiftsModel") (ref := "PileLiftsModel") (C := R_M) (T := F_M) (N := 22) (ty := .int) hx hb htw i_M t_M t_M_ok n_M hown hw 0 (wM_0 A G _) rfl 3 (by decide) (htw _ mM_8) rfl rfl (by decide +kernel) rfl rfl (Nat.le_of_ble_eq_true rfl) d_M_piles_45 (by rw [eM7]; rfl) (fun H locs hw => ?_)
      refine lv_aload_n hx hb d_M_piles_48 rfl (lv_at hl 0 rfl) ?_
      refine lv_iconst (v := 0) hx hb d_M_piles_49 (by decide) ?_
      obtain ⟨M8, eM8, h⟩ := kb_st_some h
      refine kb_put (ws' := (wM A G M8)) (own := "PileLiftsModel") (ref := "PileLiftsModel") (C := R_M) (T := F_M) (N := 22) (ty := .int) hx hb htw i_M t_M t_M_ok n_M hown hw 0 (wM_0 A G _) rfl 19 (by decide) (htw _ mM_24) rfl rfl (by decide +kernel) rfl rfl (Nat.le_of_ble_eq_true rfl) d_M_piles_50 (by rw [eM8]; rfl) (fun H locs hw => ?_)
      refine lv_aload_n hx hb d_M_piles_53 rfl (lv_at hl 0 rfl) ?_
      refine kb_get (own := "PileLiftsModel") (ref := "PileLiftsModel") (C := R_M) (T := F_M) (N := 22) hx hb htw i_M hown hw 0 (wM_0 A G _) rfl 10 (by decide) (htw _ mM_15) rfl rfl d_M_piles_54 ?_
      refine lv_iconst (v := 0) hx hb d_M_piles_57 (by decide) ?_
      refine lv_iconst (v := 0) hx hb d_M_piles_58 (by decide) ?_
      obtain ⟨M9, eM9, hi, h⟩ := kb_wr_some h
      refine kb_ast (ws' := (wM A G M9)) hx hb hw 7 6 rfl rfl hi d_M_piles_59 (by rw [eM9]; rfl) (fun H locs hw => ?_)
      refine lv_iconst (v := 0) hx hb d_M_piles_60 (by decide) ?_
      refine lv_istore_n (lv' := [(3, .int (0 : Int32)), (0, .ref (A 0)), (1, .int u1), (2, .int u2)]) hx hb d_M_piles_61 rfl hl (by decide) rfl (fun ls hl => ?_)
      exact loop_62 kb_F (0 : Int32) M9 _ _ _ h hw (lv_sub hl [1, 0] rfl)
    · have h := kb_ip c h
      obtain ⟨-, rfl⟩ := kb_rt h
      exact kb_vret hx hb hr hw hlocks d_M_piles_32
  have loop_23 : ∀ (u1 u2 : Int32) (M : Nat → Nat → Int32) (H : Heap) (locs : List Loc) (ls : Array Slot), h_M_piles_23 u1 u2 M = some (r, M') → kb_K D kcl (tyM G) (wM A G M) s (va_A (wM A G M0) sz) H locs → lv_has ls 4 [(0, .ref (A 0)), (1, .int u1), (2, .int u2)] → W p l e (headSpec (Cond.code y_M_piles b_M_piles 4 none :: wsM) { frames := 1, cells := 0, slots := 0, locals := 23 }).room s m ([.ref (A 0), .int x1, .int x2] : List Value).toArray below meth c H locs 0 0 (kb_Qv D kcl (tyM G) (wM A G M0) (wM A G M') sz below ([.ref (A 0), .int x1, .int x2] : List Value).toArray s) (F0 m 23 ls [.ref (A 0)]) := by
    intro u1 u2 M H locs ls h hw hl
    rw [h_M_piles_23] at h
    refine lv_iconst (v := 0) hx hb d_M_piles_23 (by decide) ?_
    exact loop_24 u1 u2 (0 : Int32) M _ _ _ h hw (lv_sub hl [0, 1, 2] rfl)
  have hl := lv_entry ([.ref (A 0), .int x1, .int x2]) (n := 4) (Nat.le_of_ble_eq_true rfl)
  rw [lg_entry_eq]
  generalize (lg_sl ([.ref (A 0), .int x1, .int x2]) ++ List.replicate (4 - (lg_sl ([.ref (A 0), .int x1, .int x2])).length) Slot.unset).toArray = ls at hl ⊢
  have hl : lv_has ls 4 [(0, .ref (A 0)), (1, .int x1), (2, .int x2)] := hl
  rw [f_M_piles] at h
  refine lv_aload_n hx hb d_M_piles_0 rfl (lv_at hl 0 rfl) ?_
  refine lv_iload_n hx hb d_M_piles_1 rfl (lv_at hl 1 rfl) ?_
  refine lv_iconst (v := 1) hx hb d_M_piles_2 (by decide) ?_
  refine lv_iconst (v := 4) hx hb d_M_piles_3 (by decide) ?_
  obtain ⟨r1, M2, hc, h⟩ := kb_cl_some h
  refine kb_calli0 (va_runS (As := [.int x1, .int (1 : Int32), .int (4 : Int32)]) (rest := [.ref (A 0)]) ⟨hx, hb, hml, hown, htw⟩ (c_M_in l D A G x1 (1 : Int32) (4 : Int32) M0 _ _ s.heap.size hc) ⟨(callB_of 3 htw (wsM_self mM_57) rfl rfl rfl (htw _ mM_0) (htw _ mM_55) q_M_in ⟨by show 0 + 1 ≤ 1; omega, by show 8 + (3 + 11) + 0 ≤ 23; omega⟩), htw _ mM_56⟩ (kb_preS nnM_warm nnM_same hw hN ) rfl rfl hl.1 rfl (lv_room (Nat.le_of_ble_eq_true rfl)) d_M_piles_4 ⟨Nat.zero_le _, Nat.zero_le _⟩) hw (fun H locs hw => ?_)
  refine lv_if_eq (tgt := 23) hx hb d_M_piles_7 (by decide) (fun c => ?_) (fun c => ?_)
  · have h := kb_ip c h
    exact loop_23 x1 x2 M2 _ _ _ h hw (lv_sub hl [0, 1, 2] rfl)
  · have h := kb_in c h
    refine lv_iload_n hx hb d_M_piles_10 rfl (lv_at hl 2 rfl) ?_
    refine lv_iconst (v := 1) hx hb d_M_piles_11 (by decide) ?_
    refine lv_iconst (v := 5) hx hb d_M_piles_12 (by decide) ?_
    obtain ⟨r13, M14, hc, h⟩ := kb_cl_some h
    refine kb_calli0 (va_runS (As := [.int x2, .int (1 : Int32), .int (5 : Int32)]) (rest := [.ref (A 0)]) ⟨hx, hb, hml, hown, htw⟩ (c_M_in l D A G x2 (1 : Int32) (5 : Int32) M2 _ _ H.size hc) ⟨(callB_of 3 htw (wsM_self mM_57) rfl rfl rfl (htw _ mM_0) (htw _ mM_55) q_M_in ⟨by show 0 + 1 ≤ 1; omega, by show 8 + (3 + 11) + 0 ≤ 23; omega⟩), htw _ mM_56⟩ (kb_preS nnM_warm nnM_same hw hN ) rfl rfl hl.1 rfl (lv_room (Nat.le_of_ble_eq_true rfl)) d_M_piles_13 ⟨Nat.zero_le _, Nat.zero_le _⟩) hw (fun H locs hw => ?_)
    refine lv_if_eq (tgt := 23) hx hb d_M_piles_16 (by decide) (fun c => ?_) (fun c => ?_)
    · have h := kb_ip c h
      exact loop_23 x1 x2 M14 _ _ _ h hw (lv_sub hl [0, 1, 2] rfl)
    · have h := kb_in c h
      refine lv_iconst (v := 1) hx hb d_M_piles_19 (by decide) ?_
      refine lv_goto (tgt := 24) hx hb d_M_piles_20 (by decide) ?_
      exact loop_24 x1 x2 (1 : Int32) M14 _ _ _ h hw (lv_sub hl [0, 1, 2] rfl)
def f_M_takes (x1 x2 x3 : Int32) (M0 : Nat → Nat → Int32) : Option (Int32 × (Nat → Nat → Int32)) := kb_rd (M0 6) 60 (((4 : Int32) * x1) + x2) (fun v1 => (if (M0 0 2) ≤ v1 then some ((0 : Int32), M0) else (if v1 = (0 : Int32) then some ((1 : Int32), M0) else kb_cl (f_M_cell x1 x2 (v1 - (1 : Int32)) M0) (fun r2 M3 => kb_rd (M3 5) 300 r2 (fun v4 => kb_rd (M3 2) 10 v4 (fun v5 => (if v5 < x3 then some ((0 : Int32), M3) else some ((1 : Int32), M3))))))))
set_option maxHeartbeats 4000000 in
set_option maxRecDepth 100000 in
theorem c_M_takes (l : Launch) (D : va_G) (A : Nat → Nat) (G : Nat → ClassId) (x1 x2 x3 : Int32) (M0 : Nat → Nat → Int32) (r : Int32) (M' : Nat → Nat → Int32) (sz : Nat) (h : f_M_takes x1 x2 x3 M0 = some (r, M')) : kb_Ci l y_M_takes (Cond.code y_M_takes b_M_takes 5 (some .boolean) :: wsM) { frames := 1, cells := 0, slots := 0, locals := 22 } [.ref (A 0), .int x1, .int x2, .int x3] D kcl (tyM G) (wM A G M0) (wM A G M') nnM sz r := by
  refine Met.ofW (cc := b_M_takes) (maxL := 5) (ret := (some .boolean)) (by decide) rfl ?_
  intro p e s m args below meth c s₁ B hml hv
  obtain ⟨rfl, hpre⟩ := hv
  obtain ⟨hw, hN⟩ := kb_enter hpre
  have hx := B.exec
  have hb := B.bytes
  have hr := B.returns
  have hts := atoms_spec (ws := (Cond.code y_M_takes b_M_takes 5 (some .boolean) :: wsM)) B.pre
  have htw : ∀ w ∈ wsM, w.before ([.ref (A 0), .int x1, .int x2, .int x3] : List Value).toArray s = true := fun w h => hts w (List.mem_cons_of_mem _ h)
  have hown : s.vm.findClass "PileLiftsModel" = some m.cls := findClass_of_methodNamed B.named
  have hlocks := B.notSynchronized
  have hl := lv_entry ([.ref (A 0), .int x1, .int x2, .int x3]) (n := 5) (Nat.le_of_ble_eq_true rfl)
  rw [lg_entry_eq]
  generalize (lg_sl ([.ref (A 0), .int x1, .int x2, .int x3]) ++ List.replicate (5 - (lg_sl ([.ref (A 0), .int x1, .int x2, .int x3])).length) Slot.unset).toArray = ls at hl ⊢
  have hl : lv_has ls 5 [(0, .ref (A 0)), (1, .int x1), (2, .int x2), (3, .int x3)] := hl
  rw [f_M_takes] at h
  refine lv_aload_n hx hb d_M_takes_0 rfl (lv_at hl 0 rfl) ?_
  refine kb_get (own := "PileLiftsModel") (ref := "PileLiftsModel") (C := R_M) (T := F_M) (N := 22) hx hb htw i_M hown hw 0 (wM_0 A G _) rfl 9 (by decide) (htw _ mM_14) rfl rfl d_M_takes_1 ?_
  refine lv_iconst (v := 4) hx hb d_M_takes_4 (by decide) ?_
  refine lv_iload_n hx hb d_M_takes_5 rfl (lv_at hl 1 rfl) ?_
  refine lv_imul hx hb d_M_takes_6 ?_
  refine lv_iload_n hx hb d_M_takes_7 rfl (lv_at hl 2 rfl) ?_
  refine lv_iadd hx hb d_M_takes_8 ?_
  obtain ⟨v1, ev1, hi, h⟩ := kb_rd_some h
  refine kb_ald hx hb hw 6 5 rfl rfl hi ev1 d_M_takes_9 ?_
  refine lv_istore (lv' := [(4, .int v1), (0, .ref (A 0)), (1, .int x1), (2, .int x2), (3, .int x3)]) hx hb d_M_takes_10 hl (by decide) rfl (fun ls hl => ?_)
  refine lv_iload hx hb d_M_takes_12 (lv_at hl 0 rfl) ?_
  refine lv_aload_n hx hb d_M_takes_14 rfl (lv_at hl 1 rfl) ?_
  refine kb_get (own := "PileLiftsModel") (ref := "PileLiftsModel") (C := R_M) (T := F_M) (N := 22) hx hb htw i_M hown hw 0 (wM_0 A G _) rfl 2 (by decide) (htw _ mM_7) rfl rfl d_M_takes_15 ?_
  refine lv_icmp_ge (tgt := 53) hx hb d_M_takes_18 (by decide) (fun c => ?_) (fun c => ?_)
  · have h := kb_ip c h
    refine lv_iconst (v := 0) hx hb d_M_takes_53 (by decide) ?_
    obtain ⟨rfl, rfl⟩ := kb_rt h
    exact kb_zret hx hb hr hw hlocks (Or.inl rfl) d_M_takes_54
  · have h := kb_in c h
    refine lv_iload hx hb d_M_takes_21 (lv_at hl 0 rfl) ?_
    refine lv_if_eq (tgt := 49) hx hb d_M_takes_23 (by decide) (fun c => ?_) (fun c => ?_)
    · have h := kb_ip c h
      refine lv_iconst (v := 1) hx hb d_M_takes_49 (by decide) ?_
      refine lv_goto (tgt := 54) hx hb d_M_takes_50 (by decide) ?_
      obtain ⟨rfl, rfl⟩ := kb_rt h
      exact kb_zret hx hb hr hw hlocks (Or.inr rfl) d_M_takes_54
    · have h := kb_in c h
      refine lv_aload_n hx hb d_M_takes_26 rfl (lv_at hl 1 rfl) ?_
      refine kb_get (own := "PileLiftsModel") (ref := "PileLiftsModel") (C := R_M) (T := F_M) (N := 22) hx hb htw i_M hown hw 0 (wM_0 A G _) rfl 5 (by decide) (htw _ mM_10) rfl rfl d_M_takes_27 ?_
      refine lv_aload_n hx hb d_M_takes_30 rfl (lv_at hl 1 rfl) ?_
      refine kb_get (own := "PileLiftsModel") (ref := "PileLiftsModel") (C := R_M) (T := F_M) (N := 22) hx hb htw i_M hown hw 0 (wM_0 A G _) rfl 8 (by decide) (htw _ mM_13) rfl rfl d_M_takes_31 ?_
      refine lv_iload_n hx hb d_M_takes_34 rfl (lv_at hl 2 rfl) ?_
      refine lv_iload_n hx hb d_M_takes_35 rfl (lv_at hl 3 rfl) ?_
      refine lv_iload hx hb d_M_takes_36 (lv_at hl 0 rfl) ?_
      refine lv_iconst (v := 1) hx hb d_M_takes_38 (by decide) ?_
      refine lv_isub hx hb d_M_takes_39 ?_
      obtain ⟨r2, M3, hc, h⟩ := kb_cl_some h
      refine kb_calli0 (va_runS (As := [.int x1, .int x2, .int (v1 - (1 : Int32))]) (rest := [.ref (A 5), .ref (A 2)]) ⟨hx, hb, hml, hown, htw⟩ (c_M_cell l D A G x1 x2 (v1 - (1 : Int32)) M0 _ _ s.heap.size hc) ⟨(callB_of 3 htw (wsM_self mM_72) rfl rfl rfl (htw _ mM_0) (htw _ mM_70) q_M_cell ⟨by show 0 + 1 ≤ 1; omega, by show 8 + (3 + 11) + 0 ≤ 22; omega⟩), htw _ mM_71⟩ (kb_preS nnM_warm nnM_same hw hN ) rfl rfl hl.1 rfl (lv_room (Nat.le_of_ble_eq_true rfl)) d_M_takes_40 ⟨Nat.zero_le _, Nat.zero_le _⟩) hw (fun H locs hw => ?_)
      obtain ⟨v4, ev4, hi, h⟩ := kb_rd_some h
      refine kb_ald hx hb hw 5 4 rfl rfl hi ev4 d_M_takes_43 ?_
      obtain ⟨v5, ev5, hi, h⟩ := kb_rd_some h
      refine kb_ald hx hb hw 2 1 rfl rfl hi ev5 d_M_takes_44 ?_
      refine lv_iload_n hx hb d_M_takes_45 rfl (lv_at hl 4 rfl) ?_
      refine lv_icmp_lt (tgt := 53) hx hb d_M_takes_46 (by decide) (fun c => ?_) (fun c => ?_)
      · have h := kb_ip c h
        refine lv_iconst (v := 0) hx hb d_M_takes_53 (by decide) ?_
        obtain ⟨rfl, rfl⟩ := kb_rt h
        exact kb_zret hx hb hr hw hlocks (Or.inl rfl) d_M_takes_54
      · have h := kb_in c h
        refine lv_iconst (v := 1) hx hb d_M_takes_49 (by decide) ?_
        refine lv_goto (tgt := 54) hx hb d_M_takes_50 (by decide) ?_
        obtain ⟨rfl, rfl⟩ := kb_rt h
        exact kb_zret hx hb hr hw hlocks (Or.inr rfl) d_M_takes_54
def h_M_put_71 (u1 u2 u3 w0 w1 w2 : Int32) (M : Nat → Nat → Int32) : Option (Int32 × (Nat → Nat → Int32)) := kb_cl (f_M_goes w2 w1 w0 M) (fun r5 M6 => (if r5 = (0 : Int32) then some ((0 : Int32), M6) else kb_wr M6 1 10 (M6 0 3) u2 (fun M7 => kb_wr M7 2 10 (M7 0 3) u3 (fun M8 => kb_wr M8 3 10 (M8 0 3) (-1 : Int32) (fun M9 => kb_wr M9 4 10 (M9 0 3) (-1 : Int32) (fun M10 => kb_rd (M10 6) 60 u1 (fun v11 => kb_cl (f_M_cell (0 : Int32) u1 v11 M10) (fun r12 M13 => kb_wr M13 5 300 r12 (M13 0 3) (fun M14 => kb_rd (M14 6) 60 u1 (fun v15 => kb_wr M14 6 60 u1 (v15 + (1 : Int32)) (fun M16 => kb_st (kb_up M16 0 (upd (M16 0) 3 ((M16 0 3) + (1 : Int32)))) (fun M17 => kb_cl (f_M_changed M17) (fun r18 M19 => some (((M19 0 3) - (1 : Int32)), M19))))))))))))))
def h_M_put_70 (u1 u2 u3 w0 w1 : Int32) (M : Nat → Nat → Int32) : Option (Int32 × (Nat → Nat → Int32)) := h_M_put_71 u1 u2 u3 (0 : Int32) w0 w1 M
def h_M_put_42 (u1 u2 u3 u4 w0 w1 : Int32) (M : Nat → Nat → Int32) : Option (Int32 × (Nat → Nat → Int32)) := (if u4 = (0 : Int32) then h_M_put_70 u1 u2 u3 w0 w1 M else (if (10 : Int32) ≤ (M 0 3) then h_M_put_70 u1 u2 u3 w0 w1 M else kb_cl (f_M_takes (0 : Int32) u1 u3 M) (fun r20 M21 => (if r20 = (0 : Int32) then h_M_put_70 u1 u2 u3 w0 w1 M21 else h_M_put_71 u1 u2 u3 (1 : Int32) w0 w1 M21))))
def h_M_put_41 (u1 u2 u3 u4 w0 : Int32) (M : Nat → Nat → Int32) : Option (Int32 × (Nat → Nat → Int32)) := h_M_put_42 u1 u2 u3 u4 (0 : Int32) w0 M
def f_M_put (x1 x2 x3 : Int32) (M0 : Nat → Nat → Int32) : Option (Int32 × (Nat → Nat → Int32)) := kb_cl (f_M_in x1 (0 : Int32) ((M0 0 1) - (1 : Int32)) M0) (fun r1 M2 => kb_cl (f_M_in x2 (1 : Int32) (1000 : Int32) M2) (fun r3 M4 => (if r3 = (0 : Int32) then h_M_put_41 x1 x2 x3 r1 r1 M4 else kb_cl (f_M_in x3 (1 : Int32) (100 : Int32) M4) (fun r22 M23 => (if r22 = (0 : Int32) then h_M_put_41 x1 x2 x3 r1 r1 M23 else h_M_put_42 x1 x2 x3 r1 (1 : Int32) r1 M23)))))
set_option maxHeartbeats 4000000 in
set_option maxRecDepth 100000 in
theorem c_M_put (l : Launch) (D : va_G) (A : Nat → Nat) (G : Nat → ClassId) (x1 x2 x3 : Int32) (M0 : Nat → Nat → Int32) (r : Int32) (M' : Nat → Nat → Int32) (sz : Nat) (h : f_M_put x1 x2 x3 M0 = some (r, M')) : kb_Ci l y_M_put (Cond.code y_M_put b_M_put 5 (some .int) :: wsM) { frames := 2, cells := 0, slots := 0, locals := 46 } [.ref (A 0), .int x1, .int x2, .int x3] D kcl (tyM G) (wM A G M0) (wM A G M') nnM sz r := by
  refine Met.ofW (cc := b_M_put) (maxL := 5) (ret := (some .int)) (by decide) rfl ?_
  intro p e s m args below meth c s₁ B hml hv
  obtain ⟨rfl, hpre⟩ := hv
  obtain ⟨hw, hN⟩ := kb_enter hpre
  have hx := B.exec
  have hb := B.bytes
  have hr := B.returns
  have hts := atoms_spec (ws := (Cond.code y_M_put b_M_put 5 (some .int) :: wsM)) B.pre
  have htw : ∀ w ∈ wsM, w.before ([.ref (A 0), .int x1, .int x2, .int x3] : List Value).toArray s = true := fun w h => hts w (List.mem_cons_of_mem _ h)
  have hown : s.vm.findClass "PileLiftsModel" = some m.cls := findClass_of_methodNamed B.named
  have hlocks := B.notSynchronized
  have loop_71 : ∀ (u1 u2 u3 w0 w1 w2 : Int32) (M : Nat → Nat → Int32) (H : Heap) (locs : List Loc) (ls : Array Slot), h_M_put_71 u1 u2 u3 w0 w1 w2 M = some (r, M') → kb_K D kcl (tyM G) (wM A G M) s (va_A (wM A G M0) sz) H locs → lv_has ls 5 [(0, .ref (A 0)), (1, .int u1), (2, .int u2), (3, .int u3)] → W p l e (headSpec (Cond.code y_M_put b_M_put 5 (some .int) :: wsM) { frames := 2, cells := 0, slots := 0, locals := 46 }).room s m ([.ref (A 0), .int x1, .int x2, .int x3] : List Value).toArray below meth c H locs 0 0 (kb_Qi D kcl (tyM G) (wM A G M0) (wM A G M') sz r below ([.ref (A 0), .int x1, .int x2, .int x3] : List Value).toArray s) (F0 m 71 ls [.int w0, .int w1, .int w2, .ref (A 0)]) := by
    intro u1 u2 u3 w0 w1 w2 M H locs ls h hw hl
    rw [h_M_put_71] at h
    obtain ⟨r5, M6, hc, h⟩ := kb_cl_some h
    refine kb_calli0 (va_runV (As := [.int w2, .int w1, .int w0]) (rest := []) ⟨hx, hb, hml, hown, htw⟩ (c_M_goes l D A G w2 w1 w0 M _ _ H.size hc) ⟨(callB_of 3 htw (wsM_self mM_60) rfl rfl rfl (htw _ mM_0) (htw _ mM_58) q_M_goes ⟨by show 0 + 1 ≤ 2; omega, by show 8 + (4 + 11) + 0 ≤ 46; omega⟩), htw _ mM_59, htw _ mM_149⟩ (kb_preV nnM_warm nnM_same hw hN 0 (wM_0 A G _) rfl) rfl rfl hl.1 rfl (lv_room (Nat.le_of_ble_eq_true rfl)) d_M_put_71 ⟨Nat.zero_le _, Nat.zero_le _⟩) hw (fun H locs hw => ?_)
    refine lv_if_ne (tgt := 79) hx hb d_M_put_74 (by decide) (fun c => ?_) (fun c => ?_)
    · have h := kb_in c h
      refine lv_aload_n hx hb d_M_put_79 rfl (lv_at hl 0 rfl) ?_
      refine kb_get (own := "PileLiftsModel") (ref := "PileLiftsModel") (C := R_M) (T := F_M) (N := 22) hx hb htw i_M hown hw 0 (wM_0 A G _) rfl 4 (by decide) (htw _ mM_9) rfl rfl d_M_put_80 ?_
      refine lv_aload_n hx hb d_M_put_83 rfl (lv_at hl 0 rfl) ?_
      refine kb_get (own := "PileLiftsModel") (ref := "PileLiftsModel") (C := R_M) (T := F_M) (N := 22) hx hb htw i_M hown hw 0 (wM_0 A G _) rfl 3 (by decide) (htw _ mM_8) rfl rfl d_M_put_84 ?_
      refine lv_iload_n hx hb d_M_put_87 rfl (lv_at hl 2 rfl) ?_
      obtain ⟨M7, eM7, hi, h⟩ := kb_wr_some h
      refine kb_ast (ws' := (wM A G M7)) hx hb hw 1 0 rfl rfl hi d_M_put_88 (by rw [eM7]; rfl) (fun H locs hw => ?_)
      refine lv_aload_n hx hb d_M_put_89 rfl (lv_at hl 0 rfl) ?_
      refine kb_get (own := "PileLiftsModel") (ref := "PileLiftsModel") (C := R_M) (T := F_M) (N := 22) hx hb htw i_M hown hw 0 (wM_0 A G _) rfl 5 (by decide) (htw _ mM_10) rfl rfl d_M_put_90 ?_
      refine lv_aload_n hx hb d_M_put_93 rfl (lv_at hl 0 rfl) ?_
      refine kb_get (own := "PileLiftsModel") (ref := "PileLiftsModel") (C := R_M) (T := F_M) (N := 22) hx hb htw i_M hown hw 0 (wM_0 A G _) rfl 3 (by decide) (htw _ mM_8) rfl rfl d_M_put_94 ?_
      refine lv_iload_n hx hb d_M_put_97 rfl (lv_at hl 3 rfl) ?_
      obtain ⟨M8, eM8, hi, h⟩ := kb_wr_some h
      refine kb_ast (ws' := (wM A G M8)) hx hb hw 2 1 rfl rfl hi d_M_put_98 (by rw [eM8]; rfl) (fun H locs hw => ?_)
      refine lv_aload_n hx hb d_M_put_99 rfl (lv_at hl 0 rfl) ?_
      refine kb_get (own := "PileLiftsModel") (ref := "PileLiftsModel") (C := R_M) (T := F_M) (N := 22) hx hb htw i_M hown hw 0 (wM_0 A G _) rfl 6 (by decide) (htw _ mM_11) rfl rfl d_M_put_100 ?_
      refine lv_aload_n hx hb d_M_put_103 rfl (lv_at hl 0 rfl) ?_
      refine kb_get (own := "PileLiftsModel") (ref := "PileLiftsModel") (C := R_M) (T := F_M) (N := 22) hx hb htw i_M hown hw 0 (wM_0 A G _) rfl 3 (by decide) (htw _ mM_8) rfl rfl d_M_put_104 ?_
      refine lv_iconst (v := -1) hx hb d_M_put_107 (by decide) ?_
      obtain ⟨M9, eM9, hi, h⟩ := kb_wr_some h
      refine kb_ast (ws' := (wM A G M9)) hx hb hw 3 2 rfl rfl hi d_M_put_108 (by rw [eM9]; rfl) (fun H locs hw => ?_)
      refine lv_aload_n hx hb d_M_put_109 rfl (lv_at hl 0 rfl) ?_
      refine kb_get (own := "PileLiftsModel") (ref := "PileLiftsModel") (C := R_M) (T := F_M) (N := 22) hx hb htw i_M hown hw 0 (wM_0 A G _) rfl 7 (by decide) (htw _ mM_12) rfl rfl d_M_put_110 ?_
      refine lv_aload_n hx hb d_M_put_113 rfl (lv_at hl 0 rfl) ?_
      refine kb_get (own := "PileLiftsModel") (ref := "PileLiftsModel") (C := R_M) (T := F_M) (N := 22) hx hb htw i_M hown hw 0 (wM_0 A G _) rfl 3 (by decide) (htw _ mM_8) rfl rfl d_M_put_114 ?_
      refine lv_iconst (v := -1) hx hb d_M_put_117 (by decide) ?_
      obtain ⟨M10, eM10, hi, h⟩ := kb_wr_some h
      refine kb_ast (ws' := (wM A G M10)) hx hb hw 4 3 rfl rfl hi d_M_put_118 (by rw [eM10]; rfl) (fun H locs hw => ?_)
      refine lv_aload_n hx hb d_M_put_119 rfl (lv_at hl 0 rfl) ?_
      refine kb_get (own := "PileLiftsModel") (ref := "PileLiftsModel") (C := R_M) (T := F_M) (N := 22) hx hb htw i_M hown hw 0 (wM_0 A G _) rfl 8 (by decide) (htw _ mM_13) rfl rfl d_M_put_120 ?_
      refine lv_iconst (v := 0) hx hb d_M_put_123 (by decide) ?_
      refine lv_iload_n hx hb d_M_put_124 rfl (lv_at hl 1 rfl) ?_
      refine lv_aload_n hx hb d_M_put_125 rfl (lv_at hl 0 rfl) ?_
      refine kb_get (own := "PileLiftsModel") (ref := "PileLiftsModel") (C := R_M) (T := F_M) (N := 22) hx hb htw i_M hown hw 0 (wM_0 A G _) rfl 9 (by decide) (htw _ mM_14) rfl rfl d_M_put_126 ?_
      refine lv_iload_n hx hb d_M_put_129 rfl (lv_at hl 1 rfl) ?_
      obtain ⟨v11, ev11, hi, h⟩ := kb_rd_some h
      refine kb_ald hx hb hw 6 5 rfl rfl hi ev11 d_M_put_130 ?_
      obtain ⟨r12, M13, hc, h⟩ := kb_cl_some h
      refine kb_calli0 (va_runS (As := [.int (0 : Int32), .int u1, .int v11]) (rest := [.ref (A 5)]) ⟨hx, hb, hml, hown, htw⟩ (c_M_cell l D A G (0 : Int32) u1 v11 M10 _ _ H.size hc) ⟨(callB_of 3 htw (wsM_self mM_72) rfl rfl rfl (htw _ mM_0) (htw _ mM_70) q_M_cell ⟨by show 0 + 1 ≤ 2; omega, by show 8 + (3 + 11) + 0 ≤ 46; omega⟩), htw _ mM_71⟩ (kb_preS nnM_warm nnM_same hw hN ) rfl rfl hl.1 rfl (lv_room (Nat.le_of_ble_eq_true rfl)) d_M_put_131 ⟨Nat.zero_le _, Nat.zero_le _⟩) hw (fun H locs hw => ?_)
      refine lv_aload_n hx hb d_M_put_134 rfl (lv_at hl 0 rfl) ?_
      refine kb_get (own := "PileLiftsModel") (ref := "PileLiftsModel") (C := R_M) (T := F_M) (N := 22) hx hb htw i_M hown hw 0 (wM_0 A G _) rfl 3 (by decide) (htw _ mM_8) rfl rfl d_M_put_135 ?_
      obtain ⟨M14, eM14, hi, h⟩ := kb_wr_some h
      refine kb_ast (ws' := (wM A G M14)) hx hb hw 5 4 rfl rfl hi d_M_put_138 (by rw [eM14]; rfl) (fun H locs hw => ?_)
      refine lv_aload_n hx hb d_M_put_139 rfl (lv_at hl 0 rfl) ?_
      refine kb_get (own := "PileLiftsModel") (ref := "PileLiftsModel") (C := R_M) (T := F_M) (N := 22) hx hb htw i_M hown hw 0 (wM_0 A G _) rfl 9 (by decide) (htw _ mM_14) rfl rfl d_M_put_140 ?_
      refine lv_iload_n hx hb d_M_put_143 rfl (lv_at hl 1 rfl) ?_
      refine lv_dup2_11 hx hb d_M_put_144 rfl rfl ?_
      obtain ⟨v15, ev15, hi, h⟩ := kb_rd_some h
      refine kb_ald hx hb hw 6 5 rfl rfl hi ev15 d_M_put_145 ?_
      refine lv_iconst (v := 1) hx hb d_M_put_146 (by decide) ?_
      refine lv_iadd hx hb d_M_put_147 ?_
      obtain ⟨M16, eM16, hi, h⟩ := kb_wr_some h
      refine kb_ast (ws' := (wM A G M16)) hx hb hw 6 5 rfl rfl hi d_M_put_148 (by rw [eM16]; rfl) (fun H locs hw => ?_)
      refine lv_aload_n hx hb d_M_put_149 rfl (lv_at hl 0 rfl) ?_
      refine lv_dup hx hb d_M_put_150 rfl ?_
      refine kb_get (own := "PileLiftsModel") (ref := "PileLiftsModel") (C := R_M) (T := F_M) (N := 22) hx hb htw i_M hown hw 0 (wM_0 A G _) rfl 3 (by decide) (htw _ mM_8) rfl rfl d_M_put_151 ?_
      refine lv_iconst (v := 1) hx hb d_M_put_154 (by decide) ?_
      refine lv_iadd hx hb d_M_put_155 ?_
      obtain ⟨M17, eM17, h⟩ := kb_st_some h
      refine kb_put (ws' := (wM A G M17)) (own := "PileLiftsModel") (ref := "PileLiftsModel") (C := R_M) (T := F_M) (N := 22) (ty := .int) hx hb htw i_M t_M t_M_ok n_M hown hw 0 (wM_0 A G _) rfl 3 (by decide) (htw _ mM_8) rfl rfl (by decide +kernel) rfl rfl (Nat.le_of_ble_eq_true rfl) d_M_put_156 (by rw [eM17]; rfl) (fun H locs hw => ?_)
      refine lv_aload_n hx hb d_M_put_159 rfl (lv_at hl 0 rfl) ?_
      obtain ⟨r18, M19, hc, h⟩ := kb_cl_some h
      refine kb_callv0 (va_runV (As := []) (rest := []) ⟨hx, hb, hml, hown, htw⟩ (c_M_changed l D A G M17 _ _ H.size hc) ⟨(callB_of 0 htw (wsM_self mM_63) rfl rfl rfl (htw _ mM_0) (htw _ mM_61) q_M_changed ⟨by show 0 + 1 ≤ 2; omega, by show 8 + (1 + 11) + 0 ≤ 46; omega⟩), htw _ mM_62, htw _ mM_150⟩ (kb_preV nnM_warm nnM_same hw hN 0 (wM_0 A G _) rfl) rfl rfl hl.1 rfl (lv_room (Nat.le_of_ble_eq_true rfl)) d_M_put_160 ⟨Nat.zero_le _, Nat.zero_le _⟩) hw (fun H locs hw => ?_)
      refine lv_aload_n hx hb d_M_put_163 rfl (lv_at hl 0 rfl) ?_
      refine kb_get (own := "PileLiftsModel") (ref := "PileLiftsModel") (C := R_M) (T := F_M) (N := 22) hx hb htw i_M hown hw 0 (wM_0 A G _) rfl 3 (by decide) (htw _ mM_8) rfl rfl d_M_put_164 ?_
      refine lv_iconst (v := 1) hx hb d_M_put_167 (by decide) ?_
      refine lv_isub hx hb d_M_put_168 ?_
      obtain ⟨rfl, rfl⟩ := kb_rt h
      exact kb_iret hx hb hr hw hlocks d_M_put_169
    · have h := kb_ip c h
      refine lv_iconst (v := 0) hx hb d_M_put_77 (by decide) ?_
      obtain ⟨rfl, rfl⟩ := kb_rt h
      exact kb_iret hx hb hr hw hlocks d_M_put_78
  have loop_70 : ∀ (u1 u2 u3 w0 w1 : Int32) (M : Nat → Nat → Int32) (H : Heap) (locs : List Loc) (ls : Array Slot), h_M_put_70 u1 u2 u3 w0 w1 M = some (r, M') → kb_K D kcl (tyM G) (wM A G M) s (va_A (wM A G M0) sz) H locs → lv_has ls 5 [(0, .ref (A 0)), (1, .int u1), (2, .int u2), (3, .int u3)] → W p l e (headSpec (Cond.code y_M_put b_M_put 5 (some .int) :: wsM) { frames := 2, cells := 0, slots := 0, locals := 46 }).room s m ([.ref (A 0), .int x1, .int x2, .int x3] : List Value).toArray below meth c H locs 0 0 (kb_Qi D kcl (tyM G) (wM A G M0) (wM A G M') sz r below ([.ref (A 0), .int x1, .int x2, .int x3] : List Value).toArray s) (F0 m 70 ls [.int w0, .int w1, .ref (A 0)]) := by
    intro u1 u2 u3 w0 w1 M H locs ls h hw hl
    rw [h_M_put_70] at h
    refine lv_iconst (v := 0) hx hb d_M_put_70 (by decide) ?_
    exact loop_71 u1 u2 u3 (0 : Int32) w0 w1 M _ _ _ h hw (lv_sub hl [0, 1, 2, 3] rfl)
  have loop_42 : ∀ (u1 u2 u3 u4 w0 w1 : Int32) (M : Nat → Nat → Int32) (H : Heap) (locs : List Loc) (ls : Array Slot), h_M_put_42 u1 u2 u3 u4 w0 w1 M = some (r, M') → kb_K D kcl (tyM G) (wM A G M) s (va_A (wM A G M0) sz) H locs → lv_has ls 5 [(0, .ref (A 0)), (1, .int u1), (2, .int u2), (3, .int u3), (4, .int u4)] → W p l e (headSpec (Cond.code y_M_put b_M_put 5 (some .int) :: wsM) { frames := 2, cells := 0, slots := 0, locals := 46 }).room s m ([.ref (A 0), .int x1, .int x2, .int x3] : List Value).toArray below meth c H locs 0 0 (kb_Qi D kcl (tyM G) (wM A G M0) (wM A G M') sz r below ([.ref (A 0), .int x1, .int x2, .int x3] : List Value).toArray s) (F0 m 42 ls [.int w0, .int w1, .ref (A 0)]) := by
    intro u1 u2 u3 u4 w0 w1 M H locs ls h hw hl
    rw [h_M_put_42] at h
    refine lv_iload hx hb d_M_put_42 (lv_at hl 4 rfl) ?_
    refine lv_if_eq (tgt := 70) hx hb d_M_put_44 (by decide) (fun c => ?_) (fun c => ?_)
    · have h := kb_ip c h
      exact loop_70 u1 u2 u3 w0 w1 M _ _ _ h hw (lv_sub hl [0, 1, 2, 3] rfl)
    · have h := kb_in c h
      refine lv_aload_n hx hb d_M_put_47 rfl (lv_at hl 0 rfl) ?_
      refine kb_get (own := "PileLiftsModel") (ref := "PileLiftsModel") (C := R_M) (T := F_M) (N := 22) hx hb htw i_M hown hw 0 (wM_0 A G _) rfl 3 (by decide) (htw _ mM_8) rfl rfl d_M_put_48 ?_
      refine lv_bipush (v := 10) hx hb d_M_put_51 (by decide) ?_
      refine lv_icmp_ge (tgt := 70) hx hb d_M_put_53 (by decide) (fun c => ?_) (fun c => ?_)
      · have h := kb_ip c h
        exact loop_70 u1 u2 u3 w0 w1 M _ _ _ h hw (lv_sub hl [0, 1, 2, 3] rfl)
      · have h := kb_in c h
        refine lv_aload_n hx hb d_M_put_56 rfl (lv_at hl 0 rfl) ?_
        refine lv_iconst (v := 0) hx hb d_M_put_57 (by decide) ?_
        refine lv_iload_n hx hb d_M_put_58 rfl (lv_at hl 1 rfl) ?_
        refine lv_iload_n hx hb d_M_put_59 rfl (lv_at hl 3 rfl) ?_
        obtain ⟨r20, M21, hc, h⟩ := kb_cl_some h
        refine kb_calli0 (va_runV (As := [.int (0 : Int32), .int u1, .int u3]) (rest := [.int w0, .int w1, .ref (A 0)]) ⟨hx, hb, hml, hown, htw⟩ (c_M_takes l D A G (0 : Int32) u1 u3 M _ _ H.size hc) ⟨(callB_of 3 htw (wsM_self mM_69) rfl rfl rfl (htw _ mM_0) (htw _ mM_67) q_M_takes ⟨by show 1 + 1 ≤ 2; omega, by show 8 + (5 + 11) + 22 ≤ 46; omega⟩), htw _ mM_68, htw _ mM_151⟩ (kb_preV nnM_warm nnM_same hw hN 0 (wM_0 A G _) rfl) rfl rfl hl.1 rfl (lv_room (Nat.le_of_ble_eq_true rfl)) d_M_put_60 ⟨Nat.zero_le _, Nat.zero_le _⟩) hw (fun H locs hw => ?_)
        refine lv_if_eq (tgt := 70) hx hb d_M_put_63 (by decide) (fun c => ?_) (fun c => ?_)
        · have h := kb_ip c h
          exact loop_70 u1 u2 u3 w0 w1 M21 _ _ _ h hw (lv_sub hl [0, 1, 2, 3] rfl)
        · have h := kb_in c h
          refine lv_iconst (v := 1) hx hb d_M_put_66 (by decide) ?_
          refine lv_goto (tgt := 71) hx hb d_M_put_67 (by decide) ?_
          exact loop_71 u1 u2 u3 (1 : Int32) w0 w1 M21 _ _ _ h hw (lv_sub hl [0, 1, 2, 3] rfl)
  have loop_41 : ∀ (u1 u2 u3 u4 w0 : Int32) (M : Nat → Nat → Int32) (H : Heap) (locs : List Loc) (ls : Array Slot), h_M_put_41 u1 u2 u3 u4 w0 M = some (r, M') → kb_K D kcl (tyM G) (wM A G M) s (va_A (wM A G M0) sz) H locs → lv_has ls 5 [(0, .ref (A 0)), (1, .int u1), (2, .int u2), (3, .int u3), (4, .int u4)] → W p l e (headSpec (Cond.code y_M_put b_M_put 5 (some .int) :: wsM) { frames := 2, cells := 0, slots := 0, locals := 46 }).room s m ([.ref (A 0), .int x1, .int x2, .int x3] : List Value).toArray below meth c H locs 0 0 (kb_Qi D kcl (tyM G) (wM A G M0) (wM A G M') sz r below ([.ref (A 0), .int x1, .int x2, .int x3] : List Value).toArray s) (F0 m 41 ls [.int w0, .ref (A 0)]) := by
    intro u1 u2 u3 u4 w0 M H locs ls h hw hl
    rw [h_M_put_41] at h
    refine lv_iconst (v := 0) hx hb d_M_put_41 (by decide) ?_
    exact loop_42 u1 u2 u3 u4 (0 : Int32) w0 M _ _ _ h hw (lv_sub hl [0, 1, 2, 3, 4] rfl)
  have hl := lv_entry ([.ref (A 0), .int x1, .int x2, .int x3]) (n := 5) (Nat.le_of_ble_eq_true rfl)
  rw [lg_entry_eq]
  generalize (lg_sl ([.ref (A 0), .int x1, .int x2, .int x3]) ++ List.replicate (5 - (lg_sl ([.ref (A 0), .int x1, .int x2, .int x3])).length) Slot.unset).toArray = ls at hl ⊢
  have hl : lv_has ls 5 [(0, .ref (A 0)), (1, .int x1), (2, .int x2), (3, .int x3)] := hl
  rw [f_M_put] at h
  refine lv_iload_n hx hb d_M_put_0 rfl (lv_at hl 1 rfl) ?_
  refine lv_iconst (v := 0) hx hb d_M_put_1 (by decide) ?_
  refine lv_aload_n hx hb d_M_put_2 rfl (lv_at hl 0 rfl) ?_
  refine kb_get (own := "PileLiftsModel") (ref := "PileLiftsModel") (C := R_M) (T := F_M) (N := 22) hx hb htw i_M hown hw 0 (wM_0 A G _) rfl 1 (by decide) (htw _ mM_6) rfl rfl d_M_put_3 ?_
  refine lv_iconst (v := 1) hx hb d_M_put_6 (by decide) ?_
  refine lv_isub hx hb d_M_put_7 ?_
  obtain ⟨r1, M2, hc, h⟩ := kb_cl_some h
  refine kb_calli0 (va_runS (As := [.int x1, .int (0 : Int32), .int ((M0 0 1) - (1 : Int32))]) (rest := []) ⟨hx, hb, hml, hown, htw⟩ (c_M_in l D A G x1 (0 : Int32) ((M0 0 1) - (1 : Int32)) M0 _ _ s.heap.size hc) ⟨(callB_of 3 htw (wsM_self mM_57) rfl rfl rfl (htw _ mM_0) (htw _ mM_55) q_M_in ⟨by show 0 + 1 ≤ 2; omega, by show 8 + (3 + 11) + 0 ≤ 46; omega⟩), htw _ mM_56⟩ (kb_preS nnM_warm nnM_same hw hN ) rfl rfl hl.1 rfl (lv_room (Nat.le_of_ble_eq_true rfl)) d_M_put_8 ⟨Nat.zero_le _, Nat.zero_le _⟩) hw (fun H locs hw => ?_)
  refine lv_istore (lv' := [(4, .int r1), (0, .ref (A 0)), (1, .int x1), (2, .int x2), (3, .int x3)]) hx hb d_M_put_11 hl (by decide) rfl (fun ls hl => ?_)
  refine lv_aload_n hx hb d_M_put_13 rfl (lv_at hl 1 rfl) ?_
  refine lv_iload hx hb d_M_put_14 (lv_at hl 0 rfl) ?_
  refine lv_iload_n hx hb d_M_put_16 rfl (lv_at hl 3 rfl) ?_
  refine lv_iconst (v := 1) hx hb d_M_put_17 (by decide) ?_
  refine lv_sipush (v := 1000) hx hb d_M_put_18 (by decide) ?_
  obtain ⟨r3, M4, hc, h⟩ := kb_cl_some h
  refine kb_calli0 (va_runS (As := [.int x2, .int (1 : Int32), .int (1000 : Int32)]) (rest := [.int r1, .ref (A 0)]) ⟨hx, hb, hml, hown, htw⟩ (c_M_in l D A G x2 (1 : Int32) (1000 : Int32) M2 _ _ H.size hc) ⟨(callB_of 3 htw (wsM_self mM_57) rfl rfl rfl (htw _ mM_0) (htw _ mM_55) q_M_in ⟨by show 0 + 1 ≤ 2; omega, by show 8 + (3 + 11) + 0 ≤ 46; omega⟩), htw _ mM_56⟩ (kb_preS nnM_warm nnM_same hw hN ) rfl rfl hl.1 rfl (lv_room (Nat.le_of_ble_eq_true rfl)) d_M_put_21 ⟨Nat.zero_le _, Nat.zero_le _⟩) hw (fun H locs hw => ?_)
  refine lv_if_eq (tgt := 41) hx hb d_M_put_24 (by decide) (fun c => ?_) (fun c => ?_)
  · have h := kb_ip c h
    exact loop_41 x1 x2 x3 r1 r1 M4 _ _ _ h hw (lv_sub hl [1, 2, 3, 4, 0] rfl)
  · have h := kb_in c h
    refine lv_iload_n hx hb d_M_put_27 rfl (lv_at hl 4 rfl) ?_
    refine lv_iconst (v := 1) hx hb d_M_put_28 (by decide) ?_
    refine lv_bipush (v := 100) hx hb d_M_put_29 (by decide) ?_
    obtain ⟨r22, M23, hc, h⟩ := kb_cl_some h
    refine kb_calli0 (va_runS (As := [.int x3, .int (1 : Int32), .int (100 : Int32)]) (rest := [.int r1, .ref (A 0)]) ⟨hx, hb, hml, hown, htw⟩ (c_M_in l D A G x3 (1 : Int32) (100 : Int32) M4 _ _ H.size hc) ⟨(callB_of 3 htw (wsM_self mM_57) rfl rfl rfl (htw _ mM_0) (htw _ mM_55) q_M_in ⟨by show 0 + 1 ≤ 2; omega, by show 8 + (3 + 11) + 0 ≤ 46; omega⟩), htw _ mM_56⟩ (kb_preS nnM_warm nnM_same hw hN ) rfl rfl hl.1 rfl (lv_room (Nat.le_of_ble_eq_true rfl)) d_M_put_31 ⟨Nat.zero_le _, Nat.zero_le _⟩) hw (fun H locs hw => ?_)
    refine lv_if_eq (tgt := 41) hx hb d_M_put_34 (by decide) (fun c => ?_) (fun c => ?_)
    · have h := kb_ip c h
      exact loop_41 x1 x2 x3 r1 r1 M23 _ _ _ h hw (lv_sub hl [1, 2, 3, 4, 0] rfl)
    · have h := kb_in c h
      refine lv_iconst (v := 1) hx hb d_M_put_37 (by decide) ?_
      refine lv_goto (tgt := 42) hx hb d_M_put_38 (by decide) ?_
      exact loop_42 x1 x2 x3 r1 (1 : Int32) r1 M23 _ _ _ h hw (lv_sub hl [1, 2, 3, 4, 0] rfl)
def f_M_isGone (x1 x2 : Int32) (M0 : Nat → Nat → Int32) : Option (Int32 × (Nat → Nat → Int32)) := kb_rd (M0 7) 15 x1 (fun v1 => (if ((v1 >>> (x2 &&& 31)) &&& (1 : Int32)) = (1 : Int32) then some ((1 : Int32), M0) else some ((0 : Int32), M0)))
set_option maxHeartbeats 4000000 in
set_option maxRecDepth 100000 in
theorem c_M_isGone (l : Launch) (D : va_G) (A : Nat → Nat) (G : Nat → ClassId) (x1 x2 : Int32) (M0 : Nat → Nat → Int32) (r : Int32) (M' : Nat → Nat → Int32) (sz : Nat) (h : f_M_isGone x1 x2 M0 = some (r, M')) : kb_Ci l y_M_isGone (Cond.code y_M_isGone b_M_isGone 3 (some .boolean) :: wsM) { frames := 0, cells := 0, slots := 0, locals := 0 } [.ref (A 0), .int x1, .int x2] D kcl (tyM G) (wM A G M0) (wM A G M') nnM sz r := by
  refine Met.ofW (cc := b_M_isGone) (maxL := 3) (ret := (some .boolean)) (by decide) rfl ?_
  intro p e s m args below meth c s₁ B hml hv
  obtain ⟨rfl, hpre⟩ := hv
  obtain ⟨hw, hN⟩ := kb_enter hpre
  have hx := B.exec
  have hb := B.bytes
  have hr := B.returns
  have hts := atoms_spec (ws := (Cond.code y_M_isGone b_M_isGone 3 (some .boolean) :: wsM)) B.pre
  have htw : ∀ w ∈ wsM, w.before ([.ref (A 0), .int x1, .int x2] : List Value).toArray s = true := fun w h => hts w (List.mem_cons_of_mem _ h)
  have hown : s.vm.findClass "PileLiftsModel" = some m.cls := findClass_of_methodNamed B.named
  have hlocks := B.notSynchronized
  have hl := lv_entry ([.ref (A 0), .int x1, .int x2]) (n := 3) (Nat.le_of_ble_eq_true rfl)
  rw [lg_entry_eq]
  generalize (lg_sl ([.ref (A 0), .int x1, .int x2]) ++ List.replicate (3 - (lg_sl ([.ref (A 0), .int x1, .int x2])).length) Slot.unset).toArray = ls at hl ⊢
  have hl : lv_has ls 3 [(0, .ref (A 0)), (1, .int x1), (2, .int x2)] := hl
  rw [f_M_isGone] at h
  refine lv_aload_n hx hb d_M_isGone_0 rfl (lv_at hl 0 rfl) ?_
  refine kb_get (own := "PileLiftsModel") (ref := "PileLiftsModel") (C := R_M) (T := F_M) (N := 22) hx hb htw i_M hown hw 0 (wM_0 A G _) rfl 10 (by decide) (htw _ mM_15) rfl rfl d_M_isGone_1 ?_
  refine lv_iload_n hx hb d_M_isGone_4 rfl (lv_at hl 1 rfl) ?_
  obtain ⟨v1, ev1, hi, h⟩ := kb_rd_some h
  refine kb_ald hx hb hw 7 6 rfl rfl hi ev1 d_M_isGone_5 ?_
  refine lv_iload_n hx hb d_M_isGone_6 rfl (lv_at hl 2 rfl) ?_
  refine lv_ishr hx hb d_M_isGone_7 ?_
  refine lv_iconst (v := 1) hx hb d_M_isGone_8 (by decide) ?_
  refine lv_iand hx hb d_M_isGone_9 ?_
  refine lv_iconst (v := 1) hx hb d_M_isGone_10 (by decide) ?_
  refine lv_icmp_ne (tgt := 18) hx hb d_M_isGone_11 (by decide) (fun c => ?_) (fun c => ?_)
  · have h := kb_in c h
    refine lv_iconst (v := 0) hx hb d_M_isGone_18 (by decide) ?_
    obtain ⟨rfl, rfl⟩ := kb_rt h
    exact kb_zret hx hb hr hw hlocks (Or.inl rfl) d_M_isGone_19
  · have h := kb_ip c h
    refine lv_iconst (v := 1) hx hb d_M_isGone_14 (by decide) ?_
    refine lv_goto (tgt := 19) hx hb d_M_isGone_15 (by decide) ?_
    obtain ⟨rfl, rfl⟩ := kb_rt h
    exact kb_zret hx hb hr hw hlocks (Or.inr rfl) d_M_isGone_19
def h_M_want_28 (u1 u2 w0 w1 : Int32) (M : Nat → Nat → Int32) : Option (Int32 × (Nat → Nat → Int32)) := kb_cl (f_M_in u2 (-1 : Int32) (99 : Int32) M) (fun r5 M6 => kb_cl (f_M_goes w1 w0 r5 M6) (fun r7 M8 => (if r7 = (0 : Int32) then some ((0 : Int32), M8) else kb_wr M8 3 10 u1 u2 (fun M9 => kb_cl (f_M_changed M9) (fun r10 M11 => some ((0 : Int32), M11))))))
def h_M_want_27 (u1 u2 w0 : Int32) (M : Nat → Nat → Int32) : Option (Int32 × (Nat → Nat → Int32)) := h_M_want_28 u1 u2 (0 : Int32) w0 M
def f_M_want (x1 x2 : Int32) (M0 : Nat → Nat → Int32) : Option (Int32 × (Nat → Nat → Int32)) := kb_cl (f_M_isPiece x1 M0) (fun r1 M2 => kb_cl (f_M_isPiece x1 M2) (fun r3 M4 => (if r3 = (0 : Int32) then h_M_want_27 x1 x2 r1 M4 else kb_cl (f_M_isGone (0 : Int32) x1 M4) (fun r12 M13 => (if r12 = (0 : Int32) then h_M_want_28 x1 x2 (1 : Int32) r1 M13 else h_M_want_27 x1 x2 r1 M13)))))
set_option maxHeartbeats 4000000 in
set_option maxRecDepth 100000 in
theorem c_M_want (l : Launch) (D : va_G) (A : Nat → Nat) (G : Nat → ClassId) (x1 x2 : Int32) (M0 : Nat → Nat → Int32) (r : Int32) (M' : Nat → Nat → Int32) (sz : Nat) (h : f_M_want x1 x2 M0 = some (r, M')) : kb_Cv l y_M_want (Cond.code y_M_want b_M_want 3 none :: wsM) { frames := 2, cells := 0, slots := 0, locals := 43 } [.ref (A 0), .int x1, .int x2] D kcl (tyM G) (wM A G M0) (wM A G M') nnM sz := by
  refine Met.ofW (cc := b_M_want) (maxL := 3) (ret := none) (by decide) rfl ?_
  intro p e s m args below meth c s₁ B hml hv
  obtain ⟨rfl, hpre⟩ := hv
  obtain ⟨hw, hN⟩ := kb_enter hpre
  have hx := B.exec
  have hb := B.bytes
  have hr := B.returns
  have hts := atoms_spec (ws := (Cond.code y_M_want b_M_want 3 none :: wsM)) B.pre
  have htw : ∀ w ∈ wsM, w.before ([.ref (A 0), .int x1, .int x2] : List Value).toArray s = true := fun w h => hts w (List.mem_cons_of_mem _ h)
  have hown : s.vm.findClass "PileLiftsModel" = some m.cls := findClass_of_methodNamed B.named
  have hlocks := B.notSynchronized
  have loop_28 : ∀ (u1 u2 w0 w1 : Int32) (M : Nat → Nat → Int32) (H : Heap) (locs : List Loc) (ls : Array Slot), h_M_want_28 u1 u2 w0 w1 M = some (r, M') → kb_K D kcl (tyM G) (wM A G M) s (va_A (wM A G M0) sz) H locs → lv_has ls 3 [(0, .ref (A 0)), (1, .int u1), (2, .int u2)] → W p l e (headSpec (Cond.code y_M_want b_M_want 3 none :: wsM) { frames := 2, cells := 0, slots := 0, locals := 43 }).room s m ([.ref (A 0), .int x1, .int x2] : List Value).toArray below meth c H locs 0 0 (kb_Qv D kcl (tyM G) (wM A G M0) (wM A G M') sz below ([.ref (A 0), .int x1, .int x2] : List Value).toArray s) (F0 m 28 ls [.int w0, .int w1, .ref (A 0)]) := by
    intro u1 u2 w0 w1 M H locs ls h hw hl
    rw [h_M_want_28] at h
    refine lv_iload_n hx hb d_M_want_28 rfl (lv_at hl 2 rfl) ?_
    refine lv_iconst (v := -1) hx hb d_M_want_29 (by decide) ?_
    refine lv_bipush (v := 99) hx hb d_M_want_30 (by decide) ?_
    obtain ⟨r5, M6, hc, h⟩ := kb_cl_some h
    refine kb_calli0 (va_runS (As := [.int u2, .int (-1 : Int32), .int (99 : Int32)]) (rest := [.int w0, .int w1, .ref (A 0)]) ⟨hx, hb, hml, hown, htw⟩ (c_M_in l D A G u2 (-1 : Int32) (99 : Int32) M _ _ H.size hc) ⟨(callB_of 3 htw (wsM_self mM_57) rfl rfl rfl (htw _ mM_0) (htw _ mM_55) q_M_in ⟨by show 0 + 1 ≤ 2; omega, by show 8 + (3 + 11) + 0 ≤ 43; omega⟩), htw _ mM_56⟩ (kb_preS nnM_warm nnM_same hw hN ) rfl rfl hl.1 rfl (lv_room (Nat.le_of_ble_eq_true rfl)) d_M_want_32 ⟨Nat.zero_le _, Nat.zero_le _⟩) hw (fun H locs hw => ?_)
    obtain ⟨r7, M8, hc, h⟩ := kb_cl_some h
    refine kb_calli0 (va_runV (As := [.int w1, .int w0, .int r5]) (rest := []) ⟨hx, hb, hml, hown, htw⟩ (c_M_goes l D A G w1 w0 r5 M6 _ _ H.size hc) ⟨(callB_of 3 htw (wsM_self mM_60) rfl rfl rfl (htw _ mM_0) (htw _ mM_58) q_M_goes ⟨by show 0 + 1 ≤ 2; omega, by show 8 + (4 + 11) + 0 ≤ 43; omega⟩), htw _ mM_59, htw _ mM_149⟩ (kb_preV nnM_warm nnM_same hw hN 0 (wM_0 A G _) rfl) rfl rfl hl.1 rfl (lv_room (Nat.le_of_ble_eq_true rfl)) d_M_want_35 ⟨Nat.zero_le _, Nat.zero_le _⟩) hw (fun H locs hw => ?_)
    refine lv_if_ne (tgt := 42) hx hb d_M_want_38 (by decide) (fun c => ?_) (fun c => ?_)
    · have h := kb_in c h
      refine lv_aload_n hx hb d_M_want_42 rfl (lv_at hl 0 rfl) ?_
      refine kb_get (own := "PileLiftsModel") (ref := "PileLiftsModel") (C := R_M) (T := F_M) (N := 22) hx hb htw i_M hown hw 0 (wM_0 A G _) rfl 6 (by decide) (htw _ mM_11) rfl rfl d_M_want_43 ?_
      refine lv_iload_n hx hb d_M_want_46 rfl (lv_at hl 1 rfl) ?_
      refine lv_iload_n hx hb d_M_want_47 rfl (lv_at hl 2 rfl) ?_
      obtain ⟨M9, eM9, hi, h⟩ := kb_wr_some h
      refine kb_ast (ws' := (wM A G M9)) hx hb hw 3 2 rfl rfl hi d_M_want_48 (by rw [eM9]; rfl) (fun H locs hw => ?_)
      refine lv_aload_n hx hb d_M_want_49 rfl (lv_at hl 0 rfl) ?_
      obtain ⟨r10, M11, hc, h⟩ := kb_cl_some h
      refine kb_callv0 (va_runV (As := []) (rest := []) ⟨hx, hb, hml, hown, htw⟩ (c_M_changed l D A G M9 _ _ H.size hc) ⟨(callB_of 0 htw (wsM_self mM_63) rfl rfl rfl (htw _ mM_0) (htw _ mM_61) q_M_changed ⟨by show 0 + 1 ≤ 2; omega, by show 8 + (1 + 11) + 0 ≤ 43; omega⟩), htw _ mM_62, htw _ mM_150⟩ (kb_preV nnM_warm nnM_same hw hN 0 (wM_0 A G _) rfl) rfl rfl hl.1 rfl (lv_room (Nat.le_of_ble_eq_true rfl)) d_M_want_50 ⟨Nat.zero_le _, Nat.zero_le _⟩) hw (fun H locs hw => ?_)
      obtain ⟨-, rfl⟩ := kb_rt h
      exact kb_vret hx hb hr hw hlocks d_M_want_53
    · have h := kb_ip c h
      obtain ⟨-, rfl⟩ := kb_rt h
      exact kb_vret hx hb hr hw hlocks d_M_want_41
  have loop_27 : ∀ (u1 u2 w0 : Int32) (M : Nat → Nat → Int32) (H : Heap) (locs : List Loc) (ls : Array Slot), h_M_want_27 u1 u2 w0 M = some (r, M') → kb_K D kcl (tyM G) (wM A G M) s (va_A (wM A G M0) sz) H locs → lv_has ls 3 [(0, .ref (A 0)), (1, .int u1), (2, .int u2)] → W p l e (headSpec (Cond.code y_M_want b_M_want 3 none :: wsM) { frames := 2, cells := 0, slots := 0, locals := 43 }).room s m ([.ref (A 0), .int x1, .int x2] : List Value).toArray below meth c H locs 0 0 (kb_Qv D kcl (tyM G) (wM A G M0) (wM A G M') sz below ([.ref (A 0), .int x1, .int x2] : List Value).toArray s) (F0 m 27 ls [.int w0, .ref (A 0)]) := by
    intro u1 u2 w0 M H locs ls h hw hl
    rw [h_M_want_27] at h
    refine lv_iconst (v := 0) hx hb d_M_want_27 (by decide) ?_
    exact loop_28 u1 u2 (0 : Int32) w0 M _ _ _ h hw (lv_sub hl [0, 1, 2] rfl)
  have hl := lv_entry ([.ref (A 0), .int x1, .int x2]) (n := 3) (Nat.le_of_ble_eq_true rfl)
  rw [lg_entry_eq]
  generalize (lg_sl ([.ref (A 0), .int x1, .int x2]) ++ List.replicate (3 - (lg_sl ([.ref (A 0), .int x1, .int x2])).length) Slot.unset).toArray = ls at hl ⊢
  have hl : lv_has ls 3 [(0, .ref (A 0)), (1, .int x1), (2, .int x2)] := hl
  rw [f_M_want] at h
  refine lv_aload_n hx hb d_M_want_0 rfl (lv_at hl 0 rfl) ?_
  refine lv_aload_n hx hb d_M_want_1 rfl (lv_at hl 0 rfl) ?_
  refine lv_iload_n hx hb d_M_want_2 rfl (lv_at hl 1 rfl) ?_
  obtain ⟨r1, M2, hc, h⟩ := kb_cl_some h
  refine kb_calli0 (va_runV (As := [.int x1]) (rest := [.ref (A 0)]) ⟨hx, hb, hml, hown, htw⟩ (c_M_isPiece l D A G x1 M0 _ _ s.heap.size hc) ⟨(callB_of 1 htw (wsM_self mM_78) rfl rfl rfl (htw _ mM_0) (htw _ mM_76) q_M_isPiece ⟨by show 1 + 1 ≤ 2; omega, by show 8 + (2 + 11) + 22 ≤ 43; omega⟩), htw _ mM_77, htw _ mM_152⟩ (kb_preV nnM_warm nnM_same hw hN 0 (wM_0 A G _) rfl) rfl rfl hl.1 rfl (lv_room (Nat.le_of_ble_eq_true rfl)) d_M_want_3 ⟨Nat.zero_le _, Nat.zero_le _⟩) hw (fun H locs hw => ?_)
  refine lv_aload_n hx hb d_M_want_6 rfl (lv_at hl 0 rfl) ?_
  refine lv_iload_n hx hb d_M_want_7 rfl (lv_at hl 1 rfl) ?_
  obtain ⟨r3, M4, hc, h⟩ := kb_cl_some h
  refine kb_calli0 (va_runV (As := [.int x1]) (rest := [.int r1, .ref (A 0)]) ⟨hx, hb, hml, hown, htw⟩ (c_M_isPiece l D A G x1 M2 _ _ H.size hc) ⟨(callB_of 1 htw (wsM_self mM_78) rfl rfl rfl (htw _ mM_0) (htw _ mM_76) q_M_isPiece ⟨by show 1 + 1 ≤ 2; omega, by show 8 + (2 + 11) + 22 ≤ 43; omega⟩), htw _ mM_77, htw _ mM_152⟩ (kb_preV nnM_warm nnM_same hw hN 0 (wM_0 A G _) rfl) rfl rfl hl.1 rfl (lv_room (Nat.le_of_ble_eq_true rfl)) d_M_want_8 ⟨Nat.zero_le _, Nat.zero_le _⟩) hw (fun H locs hw => ?_)
  refine lv_if_eq (tgt := 27) hx hb d_M_want_11 (by decide) (fun c => ?_) (fun c => ?_)
  · have h := kb_ip c h
    exact loop_27 x1 x2 r1 M4 _ _ _ h hw (lv_sub hl [0, 1, 2] rfl)
  · have h := kb_in c h
    refine lv_aload_n hx hb d_M_want_14 rfl (lv_at hl 0 rfl) ?_
    refine lv_iconst (v := 0) hx hb d_M_want_15 (by decide) ?_
    refine lv_iload_n hx hb d_M_want_16 rfl (lv_at hl 1 rfl) ?_
    obtain ⟨r12, M13, hc, h⟩ := kb_cl_some h
    refine kb_calli0 (va_runV (As := [.int (0 : Int32), .int x1]) (rest := [.int r1, .ref (A 0)]) ⟨hx, hb, hml, hown, htw⟩ (c_M_isGone l D A G (0 : Int32) x1 M4 _ _ H.size hc) ⟨(callB_of 2 htw (wsM_self mM_81) rfl rfl rfl (htw _ mM_0) (htw _ mM_79) q_M_isGone ⟨by show 0 + 1 ≤ 2; omega, by show 8 + (3 + 11) + 0 ≤ 43; omega⟩), htw _ mM_80, htw _ mM_153⟩ (kb_preV nnM_warm nnM_same hw hN 0 (wM_0 A G _) rfl) rfl rfl hl.1 rfl (lv_room (Nat.le_of_ble_eq_true rfl)) d_M_want_17 ⟨Nat.zero_le _, Nat.zero_le _⟩) hw (fun H locs hw => ?_)
    refine lv_if_ne (tgt := 27) hx hb d_M_want_20 (by decide) (fun c => ?_) (fun c => ?_)
    · have h := kb_in c h
      exact loop_27 x1 x2 r1 M13 _ _ _ h hw (lv_sub hl [0, 1, 2] rfl)
    · have h := kb_ip c h
      refine lv_iconst (v := 1) hx hb d_M_want_23 (by decide) ?_
      refine lv_goto (tgt := 28) hx hb d_M_want_24 (by decide) ?_
      exact loop_28 x1 x2 (1 : Int32) r1 M13 _ _ _ h hw (lv_sub hl [0, 1, 2] rfl)
def h_M_may_22 (u1 u2 w0 : Int32) (M : Nat → Nat → Int32) : Option (Int32 × (Nat → Nat → Int32)) := kb_cl (f_M_goes w0 (1 : Int32) (1 : Int32) M) (fun r3 M4 => (if r3 = (0 : Int32) then some ((0 : Int32), M4) else kb_rd (M4 2) 10 u1 (fun v5 => kb_rd (M4 2) 10 u2 (fun v6 => (if v5 < v6 then some ((0 : Int32), M4) else some ((1 : Int32), M4))))))
def h_M_may_21 (u1 u2 : Int32) (M : Nat → Nat → Int32) : Option (Int32 × (Nat → Nat → Int32)) := h_M_may_22 u1 u2 (0 : Int32) M
def f_M_may (x1 x2 : Int32) (M0 : Nat → Nat → Int32) : Option (Int32 × (Nat → Nat → Int32)) := kb_cl (f_M_isPiece x1 M0) (fun r1 M2 => (if r1 = (0 : Int32) then h_M_may_21 x1 x2 M2 else kb_cl (f_M_isPiece x2 M2) (fun r7 M8 => (if r7 = (0 : Int32) then h_M_may_21 x1 x2 M8 else h_M_may_22 x1 x2 (1 : Int32) M8))))
set_option maxHeartbeats 4000000 in
set_option maxRecDepth 100000 in
theorem c_M_may (l : Launch) (D : va_G) (A : Nat → Nat) (G : Nat → ClassId) (x1 x2 : Int32) (M0 : Nat → Nat → Int32) (r : Int32) (M' : Nat → Nat → Int32) (sz : Nat) (h : f_M_may x1 x2 M0 = some (r, M')) : kb_Ci l y_M_may (Cond.code y_M_may b_M_may 3 (some .boolean) :: wsM) { frames := 2, cells := 0, slots := 0, locals := 43 } [.ref (A 0), .int x1, .int x2] D kcl (tyM G) (wM A G M0) (wM A G M') nnM sz r := by
  refine Met.ofW (cc := b_M_may) (maxL := 3) (ret := (some .boolean)) (by decide) rfl ?_
  intro p e s m args below meth c s₁ B hml hv
  obtain ⟨rfl, hpre⟩ := hv
  obtain ⟨hw, hN⟩ := kb_enter hpre
  have hx := B.exec
  have hb := B.bytes
  have hr := B.returns
  have hts := atoms_spec (ws := (Cond.code y_M_may b_M_may 3 (some .boolean) :: wsM)) B.pre
  have htw : ∀ w ∈ wsM, w.before ([.ref (A 0), .int x1, .int x2] : List Value).toArray s = true := fun w h => hts w (List.mem_cons_of_mem _ h)
  have hown : s.vm.findClass "PileLiftsModel" = some m.cls := findClass_of_methodNamed B.named
  have hlocks := B.notSynchronized
  have loop_22 : ∀ (u1 u2 w0 : Int32) (M : Nat → Nat → Int32) (H : Heap) (locs : List Loc) (ls : Array Slot), h_M_may_22 u1 u2 w0 M = some (r, M') → kb_K D kcl (tyM G) (wM A G M) s (va_A (wM A G M0) sz) H locs → lv_has ls 3 [(0, .ref (A 0)), (1, .int u1), (2, .int u2)] → W p l e (headSpec (Cond.code y_M_may b_M_may 3 (some .boolean) :: wsM) { frames := 2, cells := 0, slots := 0, locals := 43 }).room s m ([.ref (A 0), .int x1, .int x2] : List Value).toArray below meth c H locs 0 0 (kb_Qi D kcl (tyM G) (wM A G M0) (wM A G M') sz r below ([.ref (A 0), .int x1, .int x2] : List Value).toArray s) (F0 m 22 ls [.int w0, .ref (A 0)]) := by
    intro u1 u2 w0 M H locs ls h hw hl
    rw [h_M_may_22] at h
    refine lv_iconst (v := 1) hx hb d_M_may_22 (by decide) ?_
    refine lv_iconst (v := 1) hx hb d_M_may_23 (by decide) ?_
    obtain ⟨r3, M4, hc, h⟩ := kb_cl_some h
    refine kb_calli0 (va_runV (As := [.int w0, .int (1 : Int32), .int (1 : Int32)]) (rest := []) ⟨hx, hb, hml, hown, htw⟩ (c_M_goes l D A G w0 (1 : Int32) (1 : Int32) M _ _ H.size hc) ⟨(callB_of 3 htw (wsM_self mM_60) rfl rfl rfl (htw _ mM_0) (htw _ mM_58) q_M_goes ⟨by show 0 + 1 ≤ 2; omega, by show 8 + (4 + 11) + 0 ≤ 43; omega⟩), htw _ mM_59, htw _ mM_149⟩ (kb_preV nnM_warm nnM_same hw hN 0 (wM_0 A G _) rfl) rfl rfl hl.1 rfl (lv_room (Nat.le_of_ble_eq_true rfl)) d_M_may_24 ⟨Nat.zero_le _, Nat.zero_le _⟩) hw (fun H locs hw => ?_)
    refine lv_if_eq (tgt := 49) hx hb d_M_may_27 (by decide) (fun c => ?_) (fun c => ?_)
    · have h := kb_ip c h
      refine lv_iconst (v := 0) hx hb d_M_may_49 (by decide) ?_
      obtain ⟨rfl, rfl⟩ := kb_rt h
      exact kb_zret hx hb hr hw hlocks (Or.inl rfl) d_M_may_50
    · have h := kb_in c h
      refine lv_aload_n hx hb d_M_may_30 rfl (lv_at hl 0 rfl) ?_
      refine kb_get (own := "PileLiftsModel") (ref := "PileLiftsModel") (C := R_M) (T := F_M) (N := 22) hx hb htw i_M hown hw 0 (wM_0 A G _) rfl 5 (by decide) (htw _ mM_10) rfl rfl d_M_may_31 ?_
      refine lv_iload_n hx hb d_M_may_34 rfl (lv_at hl 1 rfl) ?_
      obtain ⟨v5, ev5, hi, h⟩ := kb_rd_some h
      refine kb_ald hx hb hw 2 1 rfl rfl hi ev5 d_M_may_35 ?_
      refine lv_aload_n hx hb d_M_may_36 rfl (lv_at hl 0 rfl) ?_
      refine kb_get (own := "PileLiftsModel") (ref := "PileLiftsModel") (C := R_M) (T := F_M) (N := 22) hx hb htw i_M hown hw 0 (wM_0 A G _) rfl 5 (by decide) (htw _ mM_10) rfl rfl d_M_may_37 ?_
      refine lv_iload_n hx hb d_M_may_40 rfl (lv_at hl 2 rfl) ?_
      obtain ⟨v6, ev6, hi, h⟩ := kb_rd_some h
      refine kb_ald hx hb hw 2 1 rfl rfl hi ev6 d_M_may_41 ?_
      refine lv_icmp_lt (tgt := 49) hx hb d_M_may_42 (by decide) (fun c => ?_) (fun c => ?_)
      · have h := kb_ip c h
        refine lv_iconst (v := 0) hx hb d_M_may_49 (by decide) ?_
        obtain ⟨rfl, rfl⟩ := kb_rt h
        exact kb_zret hx hb hr hw hlocks (Or.inl rfl) d_M_may_50
      · have h := kb_in c h
        refine lv_iconst (v := 1) hx hb d_M_may_45 (by decide) ?_
        refine lv_goto (tgt := 50) hx hb d_M_may_46 (by decide) ?_
        obtain ⟨rfl, rfl⟩ := kb_rt h
        exact kb_zret hx hb hr hw hlocks (Or.inr rfl) d_M_may_50
  have loop_21 : ∀ (u1 u2 : Int32) (M : Nat → Nat → Int32) (H : Heap) (locs : List Loc) (ls : Array Slot), h_M_may_21 u1 u2 M = some (r, M') → kb_K D kcl (tyM G) (wM A G M) s (va_A (wM A G M0) sz) H locs → lv_has ls 3 [(0, .ref (A 0)), (1, .int u1), (2, .int u2)] → W p l e (headSpec (Cond.code y_M_may b_M_may 3 (some .boolean) :: wsM) { frames := 2, cells := 0, slots := 0, locals := 43 }).room s m ([.ref (A 0), .int x1, .int x2] : List Value).toArray below meth c H locs 0 0 (kb_Qi D kcl (tyM G) (wM A G M0) (wM A G M') sz r below ([.ref (A 0), .int x1, .int x2] : List Value).toArray s) (F0 m 21 ls [.ref (A 0)]) := by
    intro u1 u2 M H locs ls h hw hl
    rw [h_M_may_21] at h
    refine lv_iconst (v := 0) hx hb d_M_may_21 (by decide) ?_
    exact loop_22 u1 u2 (0 : Int32) M _ _ _ h hw (lv_sub hl [0, 1, 2] rfl)
  have hl := lv_entry ([.ref (A 0), .int x1, .int x2]) (n := 3) (Nat.le_of_ble_eq_true rfl)
  rw [lg_entry_eq]
  generalize (lg_sl ([.ref (A 0), .int x1, .int x2]) ++ List.replicate (3 - (lg_sl ([.ref (A 0), .int x1, .int x2])).length) Slot.unset).toArray = ls at hl ⊢
  have hl : lv_has ls 3 [(0, .ref (A 0)), (1, .int x1), (2, .int x2)] := hl
  rw [f_M_may] at h
  refine lv_aload_n hx hb d_M_may_0 rfl (lv_at hl 0 rfl) ?_
  refine lv_aload_n hx hb d_M_may_1 rfl (lv_at hl 0 rfl) ?_
  refine lv_iload_n hx hb d_M_may_2 rfl (lv_at hl 1 rfl) ?_
  obtain ⟨r1, M2, hc, h⟩ := kb_cl_some h
  refine kb_calli0 (va_runV (As := [.int x1]) (rest := [.ref (A 0)]) ⟨hx, hb, hml, hown, htw⟩ (c_M_isPiece l D A G x1 M0 _ _ s.heap.size hc) ⟨(callB_of 1 htw (wsM_self mM_78) rfl rfl rfl (htw _ mM_0) (htw _ mM_76) q_M_isPiece ⟨by show 1 + 1 ≤ 2; omega, by show 8 + (2 + 11) + 22 ≤ 43; omega⟩), htw _ mM_77, htw _ mM_152⟩ (kb_preV nnM_warm nnM_same hw hN 0 (wM_0 A G _) rfl) rfl rfl hl.1 rfl (lv_room (Nat.le_of_ble_eq_true rfl)) d_M_may_3 ⟨Nat.zero_le _, Nat.zero_le _⟩) hw (fun H locs hw => ?_)
  refine lv_if_eq (tgt := 21) hx hb d_M_may_6 (by decide) (fun c => ?_) (fun c => ?_)
  · have h := kb_ip c h
    exact loop_21 x1 x2 M2 _ _ _ h hw (lv_sub hl [0, 1, 2] rfl)
  · have h := kb_in c h
    refine lv_aload_n hx hb d_M_may_9 rfl (lv_at hl 0 rfl) ?_
    refine lv_iload_n hx hb d_M_may_10 rfl (lv_at hl 2 rfl) ?_
    obtain ⟨r7, M8, hc, h⟩ := kb_cl_some h
    refine kb_calli0 (va_runV (As := [.int x2]) (rest := [.ref (A 0)]) ⟨hx, hb, hml, hown, htw⟩ (c_M_isPiece l D A G x2 M2 _ _ H.size hc) ⟨(callB_of 1 htw (wsM_self mM_78) rfl rfl rfl (htw _ mM_0) (htw _ mM_76) q_M_isPiece ⟨by show 1 + 1 ≤ 2; omega, by show 8 + (2 + 11) + 22 ≤ 43; omega⟩), htw _ mM_77, htw _ mM_152⟩ (kb_preV nnM_warm nnM_same hw hN 0 (wM_0 A G _) rfl) rfl rfl hl.1 rfl (lv_room (Nat.le_of_ble_eq_true rfl)) d_M_may_11 ⟨Nat.zero_le _, Nat.zero_le _⟩) hw (fun H locs hw => ?_)
    refine lv_if_eq (tgt := 21) hx hb d_M_may_14 (by decide) (fun c => ?_) (fun c => ?_)
    · have h := kb_ip c h
      exact loop_21 x1 x2 M8 _ _ _ h hw (lv_sub hl [0, 1, 2] rfl)
    · have h := kb_in c h
      refine lv_iconst (v := 1) hx hb d_M_may_17 (by decide) ?_
      refine lv_goto (tgt := 22) hx hb d_M_may_18 (by decide) ?_
      exact loop_22 x1 x2 (1 : Int32) M8 _ _ _ h hw (lv_sub hl [0, 1, 2] rfl)
def f_M_isAhead (x1 x2 : Int32) (M0 : Nat → Nat → Int32) : Option (Int32 × (Nat → Nat → Int32)) := kb_rd (M0 3) 10 x1 (fun v1 => (if (0 : Int32) ≤ v1 then kb_rd (M0 3) 10 x2 (fun v2 => (if v2 < (0 : Int32) then some ((1 : Int32), M0) else kb_rd (M0 3) 10 x1 (fun v3 => kb_rd (M0 3) 10 x2 (fun v4 => (if v3 < v4 then some ((1 : Int32), M0) else kb_rd (M0 3) 10 x1 (fun v5 => kb_rd (M0 3) 10 x2 (fun v6 => (if v5 = v6 then (if x2 ≤ x1 then some ((0 : Int32), M0) else some ((1 : Int32), M0)) else some ((0 : Int32), M0))))))))) else some ((0 : Int32), M0)))
set_option maxHeartbeats 4000000 in
set_option maxRecDepth 100000 in
theorem c_M_isAhead (l : Launch) (D : va_G) (A : Nat → Nat) (G : Nat → ClassId) (x1 x2 : Int32) (M0 : Nat → Nat → Int32) (r : Int32) (M' : Nat → Nat → Int32) (sz : Nat) (h : f_M_isAhead x1 x2 M0 = some (r, M')) : kb_Ci l y_M_isAhead (Cond.code y_M_isAhead b_M_isAhead 3 (some .boolean) :: wsM) { frames := 0, cells := 0, slots := 0, locals := 0 } [.ref (A 0), .int x1, .int x2] D kcl (tyM G) (wM A G M0) (wM A G M') nnM sz r := by
  refine Met.ofW (cc := b_M_isAhead) (maxL := 3) (ret := (some .boolean)) (by decide) rfl ?_
  intro p e s m args below meth c s₁ B hml hv
  obtain ⟨rfl, hpre⟩ := hv
  obtain ⟨hw, hN⟩ := kb_enter hpre
  have hx := B.exec
  have hb := B.bytes
  have hr := B.returns
  have hts := atoms_spec (ws := (Cond.code y_M_isAhead b_M_isAhead 3 (some .boolean) :: wsM)) B.pre
  have htw : ∀ w ∈ wsM, w.before ([.ref (A 0), .int x1, .int x2] : List Value).toArray s = true := fun w h => hts w (List.mem_cons_of_mem _ h)
  have hown : s.vm.findClass "PileLiftsModel" = some m.cls := findClass_of_methodNamed B.named
  have hlocks := B.notSynchronized
  have hl := lv_entry ([.ref (A 0), .int x1, .int x2]) (n := 3) (Nat.le_of_ble_eq_true rfl)
  rw [lg_entry_eq]
  generalize (lg_sl ([.ref (A 0), .int x1, .int x2]) ++ List.replicate (3 - (lg_sl ([.ref (A 0), .int x1, .int x2])).length) Slot.unset).toArray = ls at hl ⊢
  have hl : lv_has ls 3 [(0, .ref (A 0)), (1, .int x1), (2, .int x2)] := hl
  rw [f_M_isAhead] at h
  refine lv_aload_n hx hb d_M_isAhead_0 rfl (lv_at hl 0 rfl) ?_
  refine kb_get (own := "PileLiftsModel") (ref := "PileLiftsModel") (C := R_M) (T := F_M) (N := 22) hx hb htw i_M hown hw 0 (wM_0 A G _) rfl 6 (by decide) (htw _ mM_11) rfl rfl d_M_isAhead_1 ?_
  refine lv_iload_n hx hb d_M_isAhead_4 rfl (lv_at hl 1 rfl) ?_
  obtain ⟨v1, ev1, hi, h⟩ := kb_rd_some h
  refine kb_ald hx hb hw 3 2 rfl rfl hi ev1 d_M_isAhead_5 ?_
  refine lv_if_ge (tgt := 11) hx hb d_M_isAhead_6 (by decide) (fun c => ?_) (fun c => ?_)
  · have h := kb_ip c h
    refine lv_aload_n hx hb d_M_isAhead_11 rfl (lv_at hl 0 rfl) ?_
    refine kb_get (own := "PileLiftsModel") (ref := "PileLiftsModel") (C := R_M) (T := F_M) (N := 22) hx hb htw i_M hown hw 0 (wM_0 A G _) rfl 6 (by decide) (htw _ mM_11) rfl rfl d_M_isAhead_12 ?_
    refine lv_iload_n hx hb d_M_isAhead_15 rfl (lv_at hl 2 rfl) ?_
    obtain ⟨v2, ev2, hi, h⟩ := kb_rd_some h
    refine kb_ald hx hb hw 3 2 rfl rfl hi ev2 d_M_isAhead_16 ?_
    refine lv_if_lt (tgt := 55) hx hb d_M_isAhead_17 (by decide) (fun c => ?_) (fun c => ?_)
    · have h := kb_ip c h
      refine lv_iconst (v := 1) hx hb d_M_isAhead_55 (by decide) ?_
      refine lv_goto (tgt := 60) hx hb d_M_isAhead_56 (by decide) ?_
      obtain ⟨rfl, rfl⟩ := kb_rt h
      exact kb_zret hx hb hr hw hlocks (Or.inr rfl) d_M_isAhead_60
    · have h := kb_in c h
      refine lv_aload_n hx hb d_M_isAhead_20 rfl (lv_at hl 0 rfl) ?_
      refine kb_get (own := "PileLiftsModel") (ref := "PileLiftsModel") (C := R_M) (T := F_M) (N := 22) hx hb htw i_M hown hw 0 (wM_0 A G _) rfl 6 (by decide) (htw _ mM_11) rfl rfl d_M_isAhead_21 ?_
      refine lv_iload_n hx hb d_M_isAhead_24 rfl (lv_at hl 1 rfl) ?_
      obtain ⟨v3, ev3, hi, h⟩ := kb_rd_some h
      refine kb_ald hx hb hw 3 2 rfl rfl hi ev3 d_M_isAhead_25 ?_
      refine lv_aload_n hx hb d_M_isAhead_26 rfl (lv_at hl 0 rfl) ?_
      refine kb_get (own := "PileLiftsModel") (ref := "PileLiftsModel") (C := R_M) (T := F_M) (N := 22) hx hb htw i_M hown hw 0 (wM_0 A G _) rfl 6 (by decide) (htw _ mM_11) rfl rfl d_M_isAhead_27 ?_
      refine lv_iload_n hx hb d_M_isAhead_30 rfl (lv_at hl 2 rfl) ?_
      obtain ⟨v4, ev4, hi, h⟩ := kb_rd_some h
      refine kb_ald hx hb hw 3 2 rfl rfl hi ev4 d_M_isAhead_31 ?_
      refine lv_icmp_lt (tgt := 55) hx hb d_M_isAhead_32 (by decide) (fun c => ?_) (fun c => ?_)
      · have h := kb_ip c h
        refine lv_iconst (v := 1) hx hb d_M_isAhead_55 (by decide) ?_
        refine lv_goto (tgt := 60) hx hb d_M_isAhead_56 (by decide) ?_
        obtain ⟨rfl, rfl⟩ := kb_rt h
        exact kb_zret hx hb hr hw hlocks (Or.inr rfl) d_M_isAhead_60
      · have h := kb_in c h
        refine lv_aload_n hx hb d_M_isAhead_35 rfl (lv_at hl 0 rfl) ?_
        refine kb_get (own := "PileLiftsModel") (ref := "PileLiftsModel") (C := R_M) (T := F_M) (N := 22) hx hb htw i_M hown hw 0 (wM_0 A G _) rfl 6 (by decide) (htw _ mM_11) rfl rfl d_M_isAhead_36 ?_
        refine lv_iload_n hx hb d_M_isAhead_39 rfl (lv_at hl 1 rfl) ?_
        obtain ⟨v5, ev5, hi, h⟩ := kb_rd_some h
        refine kb_ald hx hb hw 3 2 rfl rfl hi ev5 d_M_isAhead_40 ?_
        refine lv_aload_n hx hb d_M_isAhead_41 rfl (lv_at hl 0 rfl) ?_
        refine kb_get (own := "PileLiftsModel") (ref := "PileLiftsModel") (C := R_M) (T := F_M) (N := 22) hx hb htw i_M hown hw 0 (wM_0 A G _) rfl 6 (by decide) (htw _ mM_11) rfl rfl d_M_isAhead_42 ?_
        refine lv_iload_n hx hb d_M_isAhead_45 rfl (lv_at hl 2 rfl) ?_
        obtain ⟨v6, ev6, hi, h⟩ := kb_rd_some h
        refine kb_ald hx hb hw 3 2 rfl rfl hi ev6 d_M_isAhead_46 ?_
        refine lv_icmp_ne (tgt := 59) hx hb d_M_isAhead_47 (by decide) (fun c => ?_) (fun c => ?_)
        · have h := kb_in c h
          refine lv_iconst (v := 0) hx hb d_M_isAhead_59 (by decide) ?_
          obtain ⟨rfl, rfl⟩ := kb_rt h
          exact kb_zret hx hb hr hw hlocks (Or.inl rfl) d_M_isAhead_60
        · have h := kb_ip c h
          refine lv_iload_n hx hb d_M_isAhead_50 rfl (lv_at hl 1 rfl) ?_
          refine lv_iload_n hx hb d_M_isAhead_51 rfl (lv_at hl 2 rfl) ?_
          refine lv_icmp_ge (tgt := 59) hx hb d_M_isAhead_52 (by decide) (fun c => ?_) (fun c => ?_)
          · have h := kb_ip c h
            refine lv_iconst (v := 0) hx hb d_M_isAhead_59 (by decide) ?_
            obtain ⟨rfl, rfl⟩ := kb_rt h
            exact kb_zret hx hb hr hw hlocks (Or.inl rfl) d_M_isAhead_60
          · have h := kb_in c h
            refine lv_iconst (v := 1) hx hb d_M_isAhead_55 (by decide) ?_
            refine lv_goto (tgt := 60) hx hb d_M_isAhead_56 (by decide) ?_
            obtain ⟨rfl, rfl⟩ := kb_rt h
            exact kb_zret hx hb hr hw hlocks (Or.inr rfl) d_M_isAhead_60
  · have h := kb_in c h
    refine lv_iconst (v := 0) hx hb d_M_isAhead_9 (by decide) ?_
    obtain ⟨rfl, rfl⟩ := kb_rt h
    exact kb_zret hx hb hr hw hlocks (Or.inl rfl) d_M_isAhead_10
def h_M_blocksOn_3 : Nat → Int32 → Int32 → Int32 → Int32 → Int32 → (Nat → Nat → Int32) → Option (Int32 × (Nat → Nat → Int32))
  | 0, _, _, _, _, _, _ => none
  | n + 1, u1, u2, u3, u4, u5, M => (if u3 ≤ u5 then some ((0 : Int32), M) else kb_cl (f_M_cell u1 u2 u5 M) (fun r1 M2 => kb_rd (M2 5) 300 r1 (fun v3 => kb_cl (f_M_isAhead v3 u4 M2) (fun r4 M5 => (if r4 = (0 : Int32) then h_M_blocksOn_3 n u1 u2 u3 u4 (u5 + 1) M5 else some ((1 : Int32), M5))))))
def f_M_blocksOn (x1 x2 x3 x4 : Int32) (M0 : Nat → Nat → Int32) : Option (Int32 × (Nat → Nat → Int32)) := h_M_blocksOn_3 kb_F x1 x2 x3 x4 (0 : Int32) M0
set_option maxHeartbeats 4000000 in
set_option maxRecDepth 100000 in
theorem c_M_blocksOn (l : Launch) (D : va_G) (A : Nat → Nat) (G : Nat → ClassId) (x1 x2 x3 x4 : Int32) (M0 : Nat → Nat → Int32) (r : Int32) (M' : Nat → Nat → Int32) (sz : Nat) (h : f_M_blocksOn x1 x2 x3 x4 M0 = some (r, M')) : kb_Ci l y_M_blocksOn (Cond.code y_M_blocksOn b_M_blocksOn 6 (some .boolean) :: wsM) { frames := 1, cells := 0, slots := 0, locals := 22 } [.ref (A 0), .int x1, .int x2, .int x3, .int x4] D kcl (tyM G) (wM A G M0) (wM A G M') nnM sz r := by
  refine Met.ofW (cc := b_M_blocksOn) (maxL := 6) (ret := (some .boolean)) (by decide) rfl ?_
  intro p e s m args below meth c s₁ B hml hv
  obtain ⟨rfl, hpre⟩ := hv
  obtain ⟨hw, hN⟩ := kb_enter hpre
  have hx := B.exec
  have hb := B.bytes
  have hr := B.returns
  have hts := atoms_spec (ws := (Cond.code y_M_blocksOn b_M_blocksOn 6 (some .boolean) :: wsM)) B.pre
  have htw : ∀ w ∈ wsM, w.before ([.ref (A 0), .int x1, .int x2, .int x3, .int x4] : List Value).toArray s = true := fun w h => hts w (List.mem_cons_of_mem _ h)
  have hown : s.vm.findClass "PileLiftsModel" = some m.cls := findClass_of_methodNamed B.named
  have hlocks := B.notSynchronized
  have loop_3 : ∀ (n3 : Nat) (u1 u2 u3 u4 u5 : Int32) (M : Nat → Nat → Int32) (H : Heap) (locs : List Loc) (ls : Array Slot), h_M_blocksOn_3 n3 u1 u2 u3 u4 u5 M = some (r, M') → kb_K D kcl (tyM G) (wM A G M) s (va_A (wM A G M0) sz) H locs → lv_has ls 6 [(0, .ref (A 0)), (1, .int u1), (2, .int u2), (3, .int u3), (4, .int u4), (5, .int u5)] → W p l e (headSpec (Cond.code y_M_blocksOn b_M_blocksOn 6 (some .boolean) :: wsM) { frames := 1, cells := 0, slots := 0, locals := 22 }).room s m ([.ref (A 0), .int x1, .int x2, .int x3, .int x4] : List Value).toArray below meth c H locs 0 0 (kb_Qi D kcl (tyM G) (wM A G M0) (wM A G M') sz r below ([.ref (A 0), .int x1, .int x2, .int x3, .int x4] : List Value).toArray s) (F0 m 3 ls []) := by
    intro n3
    induction n3 with
    | zero =>
      intro u1 u2 u3 u4 u5 M H locs ls h
      cases h
    | succ n3 ih =>
      intro u1 u2 u3 u4 u5 M H locs ls h hw hl
      rw [h_M_blocksOn_3] at h
      refine lv_iload hx hb d_M_blocksOn_3 (lv_at hl 5 rfl) ?_
      refine lv_iload_n hx hb d_M_blocksOn_5 rfl (lv_at hl 3 rfl) ?_
      refine lv_icmp_ge (tgt := 38) hx hb d_M_blocksOn_6 (by decide) (fun c => ?_) (fun c => ?_)
      · have h := kb_ip c h
        refine lv_iconst (v := 0) hx hb d_M_blocksOn_38 (by decide) ?_
        obtain ⟨rfl, rfl⟩ := kb_rt h
        exact kb_zret hx hb hr hw hlocks (Or.inl rfl) d_M_blocksOn_39
      · have h := kb_in c h
        refine lv_aload_n hx hb d_M_blocksOn_9 rfl (lv_at hl 0 rfl) ?_
        refine lv_aload_n hx hb d_M_blocksOn_10 rfl (lv_at hl 0 rfl) ?_
        refine kb_get (own := "PileLiftsModel") (ref := "PileLiftsModel") (C := R_M) (T := F_M) (N := 22) hx hb htw i_M hown hw 0 (wM_0 A G _) rfl 8 (by decide) (htw _ mM_13) rfl rfl d_M_blocksOn_11 ?_
        refine lv_iload_n hx hb d_M_blocksOn_14 rfl (lv_at hl 1 rfl) ?_
        refine lv_iload_n hx hb d_M_blocksOn_15 rfl (lv_at hl 2 rfl) ?_
        refine lv_iload hx hb d_M_blocksOn_16 (lv_at hl 5 rfl) ?_
        obtain ⟨r1, M2, hc, h⟩ := kb_cl_some h
        refine kb_calli0 (va_runS (As := [.int u1, .int u2, .int u5]) (rest := [.ref (A 5), .ref (A 0)]) ⟨hx, hb, hml, hown, htw⟩ (c_M_cell l D A G u1 u2 u5 M _ _ H.size hc) ⟨(callB_of 3 htw (wsM_self mM_72) rfl rfl rfl (htw _ mM_0) (htw _ mM_70) q_M_cell ⟨by show 0 + 1 ≤ 1; omega, by show 8 + (3 + 11) + 0 ≤ 22; omega⟩), htw _ mM_71⟩ (kb_preS nnM_warm nnM_same hw hN ) rfl rfl hl.1 rfl (lv_room (Nat.le_of_ble_eq_true rfl)) d_M_blocksOn_18 ⟨Nat.zero_le _, Nat.zero_le _⟩) hw (fun H locs hw => ?_)
        obtain ⟨v3, ev3, hi, h⟩ := kb_rd_some h
        refine kb_ald hx hb hw 5 4 rfl rfl hi ev3 d_M_blocksOn_21 ?_
        refine lv_iload hx hb d_M_blocksOn_22 (lv_at hl 4 rfl) ?_
        obtain ⟨r4, M5, hc, h⟩ := kb_cl_some h
        refine kb_calli0 (va_runV (As := [.int v3, .int u4]) (rest := []) ⟨hx, hb, hml, hown, htw⟩ (c_M_isAhead l D A G v3 u4 M2 _ _ H.size hc) ⟨(callB_of 2 htw (wsM_self mM_96) rfl rfl rfl (htw _ mM_0) (htw _ mM_94) q_M_isAhead ⟨by show 0 + 1 ≤ 1; omega, by show 8 + (3 + 11) + 0 ≤ 22; omega⟩), htw _ mM_95, htw _ mM_156⟩ (kb_preV nnM_warm nnM_same hw hN 0 (wM_0 A G _) rfl) rfl rfl hl.1 rfl (lv_room (Nat.le_of_ble_eq_true rfl)) d_M_blocksOn_24 ⟨Nat.zero_le _, Nat.zero_le _⟩) hw (fun H locs hw => ?_)
        refine lv_if_eq (tgt := 32) hx hb d_M_blocksOn_27 (by decide) (fun c => ?_) (fun c => ?_)
        · have h := kb_ip c h
          refine lv_iinc (v := (u5 + 1)) (lv' := [(5, .int (u5 + 1)), (0, .ref (A 0)), (1, .int u1), (2, .int u2), (3, .int u3), (4, .int u4)]) hx hb d_M_blocksOn_32 hl (k := 5) rfl rfl (by decide) rfl (fun ls hl => ?_)
          refine lv_goto (tgt := 3) hx hb d_M_blocksOn_35 (by decide) ?_
          exact ih u1 u2 u3 u4 (u5 + 1) M5 _ _ _ h hw (lv_sub hl [1, 2, 3, 4, 5, 0] rfl)
        · have h := kb_in c h
          refine lv_iconst (v := 1) hx hb d_M_blocksOn_30 (by decide) ?_
          obtain ⟨rfl, rfl⟩ := kb_rt h
          exact kb_zret hx hb hr hw hlocks (Or.inr rfl) d_M_blocksOn_31
  have hl := lv_entry ([.ref (A 0), .int x1, .int x2, .int x3, .int x4]) (n := 6) (Nat.le_of_ble_eq_true rfl)
  rw [lg_entry_eq]
  generalize (lg_sl ([.ref (A 0), .int x1, .int x2, .int x3, .int x4]) ++ List.replicate (6 - (lg_sl ([.ref (A 0), .int x1, .int x2, .int x3, .int x4])).length) Slot.unset).toArray = ls at hl ⊢
  have hl : lv_has ls 6 [(0, .ref (A 0)), (1, .int x1), (2, .int x2), (3, .int x3), (4, .int x4)] := hl
  rw [f_M_blocksOn] at h
  refine lv_iconst (v := 0) hx hb d_M_blocksOn_0 (by decide) ?_
  refine lv_istore (lv' := [(5, .int (0 : Int32)), (0, .ref (A 0)), (1, .int x1), (2, .int x2), (3, .int x3), (4, .int x4)]) hx hb d_M_blocksOn_1 hl (by decide) rfl (fun ls hl => ?_)
  exact loop_3 kb_F x1 x2 x3 x4 (0 : Int32) M0 _ _ _ h hw (lv_sub hl [1, 2, 3, 4, 5, 0] rfl)
def h_M_boundAt_15 (k4 : Int32 → Int32 → Int32 → (Nat → Nat → Int32) → Option (Int32 × (Nat → Nat → Int32))) : Nat → Int32 → Int32 → Int32 → Int32 → (Nat → Nat → Int32) → Option (Int32 × (Nat → Nat → Int32))
  | 0, _, _, _, _, _ => none
  | n + 1, u1, u2, u3, u4, M => kb_rd (M 6) 60 (((4 : Int32) * u1) + u3) (fun v1 => (if v1 ≤ u4 then k4 u1 u2 (u3 + 1) M else kb_cl (f_M_cell u1 u3 u4 M) (fun r2 M3 => kb_rd (M3 5) 300 r2 (fun v4 => kb_cl (f_M_blocksOn u1 u3 u4 v4 M3) (fun r5 M6 => (if r5 = (0 : Int32) then h_M_boundAt_15 k4 n u1 u2 u3 (u4 + 1) M6 else h_M_boundAt_15 k4 n u1 (u2 + 1) u3 (u4 + 1) M6))))))
def h_M_boundAt_4 : Nat → Int32 → Int32 → Int32 → (Nat → Nat → Int32) → Option (Int32 × (Nat → Nat → Int32))
  | 0, _, _, _, _ => none
  | n + 1, u1, u2, u3, M => (if (M 0 1) ≤ u3 then some (u2, M) else h_M_boundAt_15 (fun y0 y1 y2 N => h_M_boundAt_4 n y0 y1 y2 N) kb_F u1 u2 u3 (0 : Int32) M)
def f_M_boundAt (x1 : Int32) (M0 : Nat → Nat → Int32) : Option (Int32 × (Nat → Nat → Int32)) := h_M_boundAt_4 kb_F x1 (0 : Int32) (0 : Int32) M0
set_option maxHeartbeats 4000000 in
set_option maxRecDepth 100000 in
theorem c_M_boundAt (l : Launch) (D : va_G) (A : Nat → Nat) (G : Nat → ClassId) (x1 : Int32) (M0 : Nat → Nat → Int32) (r : Int32) (M' : Nat → Nat → Int32) (sz : Nat) (h : f_M_boundAt x1 M0 = some (r, M')) : kb_Ci l y_M_boundAt (Cond.code y_M_boundAt b_M_boundAt 5 (some .int) :: wsM) { frames := 2, cells := 0, slots := 0, locals := 47 } [.ref (A 0), .int x1] D kcl (tyM G) (wM A G M0) (wM A G M') nnM sz r := by
  refine Met.ofW (cc := b_M_boundAt) (maxL := 5) (ret := (some .int)) (by decide) rfl ?_
  intro p e s m args below meth c s₁ B hml hv
  obtain ⟨rfl, hpre⟩ := hv
  obtain ⟨hw, hN⟩ := kb_enter hpre
  have hx := B.exec
  have hb := B.bytes
  have hr := B.returns
  have hts := atoms_spec (ws := (Cond.code y_M_boundAt b_M_boundAt 5 (some .int) :: wsM)) B.pre
  have htw : ∀ w ∈ wsM, w.before ([.ref (A 0), .int x1] : List Value).toArray s = true := fun w h => hts w (List.mem_cons_of_mem _ h)
  have hown : s.vm.findClass "PileLiftsModel" = some m.cls := findClass_of_methodNamed B.named
  have hlocks := B.notSynchronized
  have loop_4 : ∀ (n4 : Nat) (u1 u2 u3 : Int32) (M : Nat → Nat → Int32) (H : Heap) (locs : List Loc) (ls : Array Slot), h_M_boundAt_4 n4 u1 u2 u3 M = some (r, M') → kb_K D kcl (tyM G) (wM A G M) s (va_A (wM A G M0) sz) H locs → lv_has ls 5 [(0, .ref (A 0)), (1, .int u1), (2, .int u2), (3, .int u3)] → W p l e (headSpec (Cond.code y_M_boundAt b_M_boundAt 5 (some .int) :: wsM) { frames := 2, cells := 0, slots := 0, locals := 47 }).room s m ([.ref (A 0), .int x1] : List Value).toArray below meth c H locs 0 0 (kb_Qi D kcl (tyM G) (wM A G M0) (wM A G M') sz r below ([.ref (A 0), .int x1] : List Value).toArray s) (F0 m 4 ls []) := by
    intro n4
    induction n4 with
    | zero =>
      intro u1 u2 u3 M H locs ls h
      cases h
    | succ n4 ih =>
      have ih4 := ih
      have loop_15 : ∀ (n15 : Nat) (u1 u2 u3 u4 : Int32) (M : Nat → Nat → Int32) (H : Heap) (locs : List Loc) (ls : Array Slot), h_M_boundAt_15 (fun y0 y1 y2 N => h_M_boundAt_4 n4 y0 y1 y2 N) n15 u1 u2 u3 u4 M = some (r, M') → kb_K D kcl (tyM G) (wM A G M) s (va_A (wM A G M0) sz) H locs → lv_has ls 5 [(0, .ref (A 0)), (1, .int u1), (2, .int u2), (3, .int u3), (4, .int u4)] → W p l e (headSpec (Cond.code y_M_boundAt b_M_boundAt 5 (some .int) :: wsM) { frames := 2, cells := 0, slots := 0, locals := 47 }).room s m ([.ref (A 0), .int x1] : List Value).toArray below meth c H locs 0 0 (kb_Qi D kcl (tyM G) (wM A G M0) (wM A G M') sz r below ([.ref (A 0), .int x1] : List Value).toArray s) (F0 m 15 ls []) := by
        intro n15
        induction n15 with
        | zero =>
          intro u1 u2 u3 u4 M H locs ls h
          cases h
        | succ n15 ih =>
          intro u1 u2 u3 u4 M H locs ls h hw hl
          rw [h_M_boundAt_15] at h
          refine lv_iload hx hb d_M_boundAt_15 (lv_at hl 4 rfl) ?_
          refine lv_aload_n hx hb d_M_boundAt_17 rfl (lv_at hl 0 rfl) ?_
          refine kb_get (own := "PileLiftsModel") (ref := "PileLiftsModel") (C := R_M) (T := F_M) (N := 22) hx hb htw i_M hown hw 0 (wM_0 A G _) rfl 9 (by decide) (htw _ mM_14) rfl rfl d_M_boundAt_18 ?_
          refine lv_iconst (v := 4) hx hb d_M_boundAt_21 (by decide) ?_
          refine lv_iload_n hx hb d_M_boundAt_22 rfl (lv_at hl 1 rfl) ?_
          refine lv_imul hx hb d_M_boundAt_23 ?_
          refine lv_iload_n hx hb d_M_boundAt_24 rfl (lv_at hl 3 rfl) ?_
          refine lv_iadd hx hb d_M_boundAt_25 ?_
          obtain ⟨v1, ev1, hi, h⟩ := kb_rd_some h
          refine kb_ald hx hb hw 6 5 rfl rfl hi ev1 d_M_boundAt_26 ?_
          refine lv_icmp_ge (tgt := 62) hx hb d_M_boundAt_27 (by decide) (fun c => ?_) (fun c => ?_)
          · have h := kb_ip c h
            refine lv_iinc (v := (u3 + 1)) (lv' := [(3, .int (u3 + 1)), (0, .ref (A 0)), (1, .int u1), (2, .int u2), (4, .int u4)]) hx hb d_M_boundAt_62 hl (k := 3) rfl rfl (by decide) rfl (fun ls hl => ?_)
            refine lv_goto (tgt := 4) hx hb d_M_boundAt_65 (by decide) ?_
            exact ih4 u1 u2 (u3 + 1) M _ _ _ h hw (lv_sub hl [1, 2, 3, 0] rfl)
          · have h := kb_in c h
            refine lv_aload_n hx hb d_M_boundAt_30 rfl (lv_at hl 0 rfl) ?_
            refine lv_iload_n hx hb d_M_boundAt_31 rfl (lv_at hl 1 rfl) ?_
            refine lv_iload_n hx hb d_M_boundAt_32 rfl (lv_at hl 3 rfl) ?_
            refine lv_iload hx hb d_M_boundAt_33 (lv_at hl 4 rfl) ?_
            refine lv_aload_n hx hb d_M_boundAt_35 rfl (lv_at hl 0 rfl) ?_
            refine kb_get (own := "PileLiftsModel") (ref := "PileLiftsModel") (C := R_M) (T := F_M) (N := 22) hx hb htw i_M hown hw 0 (wM_0 A G _) rfl 8 (by decide) (htw _ mM_13) rfl rfl d_M_boundAt_36 ?_
            refine lv_iload_n hx hb d_M_boundAt_39 rfl (lv_at hl 1 rfl) ?_
            refine lv_iload_n hx hb d_M_boundAt_40 rfl (lv_at hl 3 rfl) ?_
            refine lv_iload hx hb d_M_boundAt_41 (lv_at hl 4 rfl) ?_
            obtain ⟨r2, M3, hc, h⟩ := kb_cl_some h
            refine kb_calli0 (va_runS (As := [.int u1, .int u3, .int u4]) (rest := [.ref (A 5), .int u4, .int u3, .int u1, .ref (A 0)]) ⟨hx, hb, hml, hown, htw⟩ (c_M_cell l D A G u1 u3 u4 M _ _ H.size hc) ⟨(callB_of 3 htw (wsM_self mM_72) rfl rfl rfl (htw _ mM_0) (htw _ mM_70) q_M_cell ⟨by show 0 + 1 ≤ 2; omega, by show 8 + (3 + 11) + 0 ≤ 47; omega⟩), htw _ mM_71⟩ (kb_preS nnM_warm nnM_same hw hN ) rfl rfl hl.1 rfl (lv_room (Nat.le_of_ble_eq_true rfl)) d_M_boundAt_43 ⟨Nat.zero_le _, Nat.zero_le _⟩) hw (fun H locs hw => ?_)
            obtain ⟨v4, ev4, hi, h⟩ := kb_rd_some h
            refine kb_ald hx hb hw 5 4 rfl rfl hi ev4 d_M_boundAt_46 ?_
            obtain ⟨r5, M6, hc, h⟩ := kb_cl_some h
            refine kb_calli0 (va_runV (As := [.int u1, .int u3, .int u4, .int v4]) (rest := []) ⟨hx, hb, hml, hown, htw⟩ (c_M_blocksOn l D A G u1 u3 u4 v4 M3 _ _ H.size hc) ⟨(callB_of 4 htw (wsM_self mM_93) rfl rfl rfl (htw _ mM_0) (htw _ mM_91) q_M_blocksOn ⟨by show 1 + 1 ≤ 2; omega, by show 8 + (6 + 11) + 22 ≤ 47; omega⟩), htw _ mM_92, htw _ mM_155⟩ (kb_preV nnM_warm nnM_same hw hN 0 (wM_0 A G _) rfl) rfl rfl hl.1 rfl (lv_room (Nat.le_of_ble_eq_true rfl)) d_M_boundAt_47 ⟨Nat.zero_le _, Nat.zero_le _⟩) hw (fun H locs hw => ?_)
            refine lv_if_eq (tgt := 56) hx hb d_M_boundAt_50 (by decide) (fun c => ?_) (fun c => ?_)
            · have h := kb_ip c h
              refine lv_iinc (v := (u4 + 1)) (lv' := [(4, .int (u4 + 1)), (0, .ref (A 0)), (1, .int u1), (2, .int u2), (3, .int u3)]) hx hb d_M_boundAt_56 hl (k := 4) rfl rfl (by decide) rfl (fun ls hl => ?_)
              refine lv_goto (tgt := 15) hx hb d_M_boundAt_59 (by decide) ?_
              exact ih u1 u2 u3 (u4 + 1) M6 _ _ _ h hw (lv_sub hl [1, 2, 3, 4, 0] rfl)
            · have h := kb_in c h
              refine lv_iinc (v := (u2 + 1)) (lv' := [(2, .int (u2 + 1)), (0, .ref (A 0)), (1, .int u1), (3, .int u3), (4, .int u4)]) hx hb d_M_boundAt_53 hl (k := 2) rfl rfl (by decide) rfl (fun ls hl => ?_)
              refine lv_iinc (v := (u4 + 1)) (lv' := [(4, .int (u4 + 1)), (2, .int (u2 + 1)), (0, .ref (A 0)), (1, .int u1), (3, .int u3)]) hx hb d_M_boundAt_56 hl (k := 4) rfl rfl (by decide) rfl (fun ls hl => ?_)
              refine lv_goto (tgt := 15) hx hb d_M_boundAt_59 (by decide) ?_
              exact ih u1 (u2 + 1) u3 (u4 + 1) M6 _ _ _ h hw (lv_sub hl [2, 3, 1, 4, 0] rfl)
      intro u1 u2 u3 M H locs ls h hw hl
      rw [h_M_boundAt_4] at h
      refine lv_iload_n hx hb d_M_boundAt_4 rfl (lv_at hl 3 rfl) ?_
      refine lv_aload_n hx hb d_M_boundAt_5 rfl (lv_at hl 0 rfl) ?_
      refine kb_get (own := "PileLiftsModel") (ref := "PileLiftsModel") (C := R_M) (T := F_M) (N := 22) hx hb htw i_M hown hw 0 (wM_0 A G _) rfl 1 (by decide) (htw _ mM_6) rfl rfl d_M_boundAt_6 ?_
      refine lv_icmp_ge (tgt := 68) hx hb d_M_boundAt_9 (by decide) (fun c => ?_) (fun c => ?_)
      · have h := kb_ip c h
        refine lv_iload_n hx hb d_M_boundAt_68 rfl (lv_at hl 2 rfl) ?_
        obtain ⟨rfl, rfl⟩ := kb_rt h
        exact kb_iret hx hb hr hw hlocks d_M_boundAt_69
      · have h := kb_in c h
        refine lv_iconst (v := 0) hx hb d_M_boundAt_12 (by decide) ?_
        refine lv_istore (lv' := [(4, .int (0 : Int32)), (0, .ref (A 0)), (1, .int u1), (2, .int u2), (3, .int u3)]) hx hb d_M_boundAt_13 hl (by decide) rfl (fun ls hl => ?_)
        exact loop_15 kb_F u1 u2 u3 (0 : Int32) M _ _ _ h hw (lv_sub hl [1, 2, 3, 4, 0] rfl)
  have hl := lv_entry ([.ref (A 0), .int x1]) (n := 5) (Nat.le_of_ble_eq_true rfl)
  rw [lg_entry_eq]
  generalize (lg_sl ([.ref (A 0), .int x1]) ++ List.replicate (5 - (lg_sl ([.ref (A 0), .int x1])).length) Slot.unset).toArray = ls at hl ⊢
  have hl : lv_has ls 5 [(0, .ref (A 0)), (1, .int x1)] := hl
  rw [f_M_boundAt] at h
  refine lv_iconst (v := 0) hx hb d_M_boundAt_0 (by decide) ?_
  refine lv_istore_n (lv' := [(2, .int (0 : Int32)), (0, .ref (A 0)), (1, .int x1)]) hx hb d_M_boundAt_1 rfl hl (by decide) rfl (fun ls hl => ?_)
  refine lv_iconst (v := 0) hx hb d_M_boundAt_2 (by decide) ?_
  refine lv_istore_n (lv' := [(3, .int (0 : Int32)), (2, .int (0 : Int32)), (0, .ref (A 0)), (1, .int x1)]) hx hb d_M_boundAt_3 rfl hl (by decide) rfl (fun ls hl => ?_)
  exact loop_4 kb_F x1 (0 : Int32) (0 : Int32) M0 _ _ _ h hw (lv_sub hl [2, 3, 1, 0] rfl)
def f_M_bound (M0 : Nat → Nat → Int32) : Option (Int32 × (Nat → Nat → Int32)) := kb_st (kb_up M0 0 (upd (M0 0) 0 (0 : Int32))) (fun M1 => kb_cl (f_M_boundAt (0 : Int32) M1) (fun r2 M3 => some (r2, M3)))
set_option maxHeartbeats 4000000 in
set_option maxRecDepth 100000 in
theorem c_M_bound (l : Launch) (D : va_G) (A : Nat → Nat) (G : Nat → ClassId) (M0 : Nat → Nat → Int32) (r : Int32) (M' : Nat → Nat → Int32) (sz : Nat) (h : f_M_bound M0 = some (r, M')) : kb_Ci l y_M_bound (Cond.code y_M_bound b_M_bound 1 (some .int) :: wsM) { frames := 3, cells := 0, slots := 0, locals := 71 } [.ref (A 0)] D kcl (tyM G) (wM A G M0) (wM A G M') nnM sz r := by
  refine Met.ofW (cc := b_M_bound) (maxL := 1) (ret := (some .int)) (by decide) rfl ?_
  intro p e s m args below meth c s₁ B hml hv
  obtain ⟨rfl, hpre⟩ := hv
  obtain ⟨hw, hN⟩ := kb_enter hpre
  have hx := B.exec
  have hb := B.bytes
  have hr := B.returns
  have hts := atoms_spec (ws := (Cond.code y_M_bound b_M_bound 1 (some .int) :: wsM)) B.pre
  have htw : ∀ w ∈ wsM, w.before ([.ref (A 0)] : List Value).toArray s = true := fun w h => hts w (List.mem_cons_of_mem _ h)
  have hown : s.vm.findClass "PileLiftsModel" = some m.cls := findClass_of_methodNamed B.named
  have hlocks := B.notSynchronized
  have hl := lv_entry ([.ref (A 0)]) (n := 1) (Nat.le_of_ble_eq_true rfl)
  rw [lg_entry_eq]
  generalize (lg_sl ([.ref (A 0)]) ++ List.replicate (1 - (lg_sl ([.ref (A 0)])).length) Slot.unset).toArray = ls at hl ⊢
  have hl : lv_has ls 1 [(0, .ref (A 0))] := hl
  rw [f_M_bound] at h
  refine lv_aload_n hx hb d_M_bound_0 rfl (lv_at hl 0 rfl) ?_
  refine lv_iconst (v := 0) hx hb d_M_bound_1 (by decide) ?_
  obtain ⟨M1, eM1, h⟩ := kb_st_some h
  refine kb_put (ws' := (wM A G M1)) (own := "PileLiftsModel") (ref := "PileLiftsModel") (C := R_M) (T := F_M) (N := 22) (ty := .int) hx hb htw i_M t_M t_M_ok n_M hown hw 0 (wM_0 A G _) rfl 0 (by decide) (htw _ mM_5) rfl rfl (by decide +kernel) rfl rfl (Nat.le_of_ble_eq_true rfl) d_M_bound_2 (by rw [eM1]; rfl) (fun H locs hw => ?_)
  refine lv_aload_n hx hb d_M_bound_5 rfl (lv_at hl 0 rfl) ?_
  refine lv_iconst (v := 0) hx hb d_M_bound_6 (by decide) ?_
  obtain ⟨r2, M3, hc, h⟩ := kb_cl_some h
  refine kb_calli0 (va_runV (As := [.int (0 : Int32)]) (rest := []) ⟨hx, hb, hml, hown, htw⟩ (c_M_boundAt l D A G (0 : Int32) M1 _ _ H.size hc) ⟨(callB_of 1 htw (wsM_self mM_90) rfl rfl rfl (htw _ mM_0) (htw _ mM_88) q_M_boundAt ⟨by show 2 + 1 ≤ 3; omega, by show 8 + (5 + 11) + 47 ≤ 71; omega⟩), htw _ mM_89, htw _ mM_154⟩ (kb_preV nnM_warm nnM_same hw hN 0 (wM_0 A G _) rfl) rfl rfl hl.1 rfl (lv_room (Nat.le_of_ble_eq_true rfl)) d_M_bound_7 ⟨Nat.zero_le _, Nat.zero_le _⟩) hw (fun H locs hw => ?_)
  obtain ⟨rfl, rfl⟩ := kb_rt h
  exact kb_iret hx hb hr hw hlocks d_M_bound_10
def h_M_copy_38 : Nat → Int32 → Int32 → Int32 → (Nat → Nat → Int32) → Option (Int32 × (Nat → Nat → Int32))
  | 0, _, _, _, _ => none
  | n + 1, u1, u2, u3, M => (if (4 : Int32) ≤ u3 then kb_rd (M 7) 15 u1 (fun v1 => kb_wr M 7 15 u2 v1 (fun M2 => kb_rd (M2 11) 15 u1 (fun v3 => kb_wr M2 11 15 u2 v3 (fun M4 => some ((0 : Int32), M4))))) else kb_rd (M 6) 60 (((4 : Int32) * u1) + u3) (fun v5 => kb_wr M 6 60 (((4 : Int32) * u2) + u3) v5 (fun M6 => h_M_copy_38 n u1 u2 (u3 + 1) M6)))
def h_M_copy_2 : Nat → Int32 → Int32 → Int32 → (Nat → Nat → Int32) → Option (Int32 × (Nat → Nat → Int32))
  | 0, _, _, _, _ => none
  | n + 1, u1, u2, u3, M => (if (20 : Int32) ≤ u3 then h_M_copy_38 kb_F u1 u2 (0 : Int32) M else kb_rd (M 5) 300 (((20 : Int32) * u1) + u3) (fun v7 => kb_wr M 5 300 (((20 : Int32) * u2) + u3) v7 (fun M8 => h_M_copy_2 n u1 u2 (u3 + 1) M8)))
def f_M_copy (x1 x2 : Int32) (M0 : Nat → Nat → Int32) : Option (Int32 × (Nat → Nat → Int32)) := h_M_copy_2 kb_F x1 x2 (0 : Int32) M0
set_option maxHeartbeats 4000000 in
set_option maxRecDepth 100000 in
theorem c_M_copy (l : Launch) (D : va_G) (A : Nat → Nat) (G : Nat → ClassId) (x1 x2 : Int32) (M0 : Nat → Nat → Int32) (r : Int32) (M' : Nat → Nat → Int32) (sz : Nat) (h : f_M_copy x1 x2 M0 = some (r, M')) : kb_Cv l y_M_copy (Cond.code y_M_copy b_M_copy 4 none :: wsM) { frames := 0, cells := 0, slots := 0, locals := 0 } [.ref (A 0), .int x1, .int x2] D kcl (tyM G) (wM A G M0) (wM A G M') nnM sz := by
  refine Met.ofW (cc := b_M_copy) (maxL := 4) (ret := none) (by decide) rfl ?_
  intro p e s m args below meth c s₁ B hml hv
  obtain ⟨rfl, hpre⟩ := hv
  obtain ⟨hw, hN⟩ := kb_enter hpre
  have hx := B.exec
  have hb := B.bytes
  have hr := B.returns
  have hts := atoms_spec (ws := (Cond.code y_M_copy b_M_copy 4 none :: wsM)) B.pre
  have htw : ∀ w ∈ wsM, w.before ([.ref (A 0), .int x1, .int x2] : List Value).toArray s = true := fun w h => hts w (List.mem_cons_of_mem _ h)
  have hown : s.vm.findClass "PileLiftsModel" = some m.cls := findClass_of_methodNamed B.named
  have hlocks := B.notSynchronized
  have loop_38 : ∀ (n38 : Nat) (u1 u2 u3 : Int32) (M : Nat → Nat → Int32) (H : Heap) (locs : List Loc) (ls : Array Slot), h_M_copy_38 n38 u1 u2 u3 M = some (r, M') → kb_K D kcl (tyM G) (wM A G M) s (va_A (wM A G M0) sz) H locs → lv_has ls 4 [(0, .ref (A 0)), (1, .int u1), (2, .int u2), (3, .int u3)] → W p l e (headSpec (Cond.code y_M_copy b_M_copy 4 none :: wsM) { frames := 0, cells := 0, slots := 0, locals := 0 }).room s m ([.ref (A 0), .int x1, .int x2] : List Value).toArray below meth c H locs 0 0 (kb_Qv D kcl (tyM G) (wM A G M0) (wM A G M') sz below ([.ref (A 0), .int x1, .int x2] : List Value).toArray s) (F0 m 38 ls []) := by
    intro n38
    induction n38 with
    | zero =>
      intro u1 u2 u3 M H locs ls h
      cases h
    | succ n38 ih =>
      intro u1 u2 u3 M H locs ls h hw hl
      rw [h_M_copy_38] at h
      refine lv_iload_n hx hb d_M_copy_38 rfl (lv_at hl 3 rfl) ?_
      refine lv_iconst (v := 4) hx hb d_M_copy_39 (by decide) ?_
      refine lv_icmp_ge (tgt := 69) hx hb d_M_copy_40 (by decide) (fun c => ?_) (fun c => ?_)
      · have h := kb_ip c h
        refine lv_aload_n hx hb d_M_copy_69 rfl (lv_at hl 0 rfl) ?_
        refine kb_get (own := "PileLiftsModel") (ref := "PileLiftsModel") (C := R_M) (T := F_M) (N := 22) hx hb htw i_M hown hw 0 (wM_0 A G _) rfl 10 (by decide) (htw _ mM_15) rfl rfl d_M_copy_70 ?_
        refine lv_iload_n hx hb d_M_copy_73 rfl (lv_at hl 2 rfl) ?_
        refine lv_aload_n hx hb d_M_copy_74 rfl (lv_at hl 0 rfl) ?_
        refine kb_get (own := "PileLiftsModel") (ref := "PileLiftsModel") (C := R_M) (T := F_M) (N := 22) hx hb htw i_M hown hw 0 (wM_0 A G _) rfl 10 (by decide) (htw _ mM_15) rfl rfl d_M_copy_75 ?_
        refine lv_iload_n hx hb d_M_copy_78 rfl (lv_at hl 1 rfl) ?_
        obtain ⟨v1, ev1, hi, h⟩ := kb_rd_some h
        refine kb_ald hx hb hw 7 6 rfl rfl hi ev1 d_M_copy_79 ?_
        obtain ⟨M2, eM2, hi, h⟩ := kb_wr_some h
        refine kb_ast (ws' := (wM A G M2)) hx hb hw 7 6 rfl rfl hi d_M_copy_80 (by rw [eM2]; rfl) (fun H locs hw => ?_)
        refine lv_aload_n hx hb d_M_copy_81 rfl (lv_at hl 0 rfl) ?_
        refine kb_get (own := "PileLiftsModel") (ref := "PileLiftsModel") (C := R_M) (T := F_M) (N := 22) hx hb htw i_M hown hw 0 (wM_0 A G _) rfl 14 (by decide) (htw _ mM_19) rfl rfl d_M_copy_82 ?_
        refine lv_iload_n hx hb d_M_copy_85 rfl (lv_at hl 2 rfl) ?_
        refine lv_aload_n hx hb d_M_copy_86 rfl (lv_at hl 0 rfl) ?_
        refine kb_get (own := "PileLiftsModel") (ref := "PileLiftsModel") (C := R_M) (T := F_M) (N := 22) hx hb htw i_M hown hw 0 (wM_0 A G _) rfl 14 (by decide) (htw _ mM_19) rfl rfl d_M_copy_87 ?_
        refine lv_iload_n hx hb d_M_copy_90 rfl (lv_at hl 1 rfl) ?_
        obtain ⟨v3, ev3, hi, h⟩ := kb_rd_some h
        refine kb_ald hx hb hw 11 10 rfl rfl hi ev3 d_M_copy_91 ?_
        obtain ⟨M4, eM4, hi, h⟩ := kb_wr_some h
        refine kb_ast (ws' := (wM A G M4)) hx hb hw 11 10 rfl rfl hi d_M_copy_92 (by rw [eM4]; rfl) (fun H locs hw => ?_)
        obtain ⟨-, rfl⟩ := kb_rt h
        exact kb_vret hx hb hr hw hlocks d_M_copy_93
      · have h := kb_in c h
        refine lv_aload_n hx hb d_M_copy_43 rfl (lv_at hl 0 rfl) ?_
        refine kb_get (own := "PileLiftsModel") (ref := "PileLiftsModel") (C := R_M) (T := F_M) (N := 22) hx hb htw i_M hown hw 0 (wM_0 A G _) rfl 9 (by decide) (htw _ mM_14) rfl rfl d_M_copy_44 ?_
        refine lv_iconst (v := 4) hx hb d_M_copy_47 (by decide) ?_
        refine lv_iload_n hx hb d_M_copy_48 rfl (lv_at hl 2 rfl) ?_
        refine lv_imul hx hb d_M_copy_49 ?_
        refine lv_iload_n hx hb d_M_copy_50 rfl (lv_at hl 3 rfl) ?_
        refine lv_iadd hx hb d_M_copy_51 ?_
        refine lv_aload_n hx hb d_M_copy_52 rfl (lv_at hl 0 rfl) ?_
        refine kb_get (own := "PileLiftsModel") (ref := "PileLiftsModel") (C := R_M) (T := F_M) (N := 22) hx hb htw i_M hown hw 0 (wM_0 A G _) rfl 9 (by decide) (htw _ mM_14) rfl rfl d_M_copy_53 ?_
        refine lv_iconst (v := 4) hx hb d_M_copy_56 (by decide) ?_
        refine lv_iload_n hx hb d_M_copy_57 rfl (lv_at hl 1 rfl) ?_
        refine lv_imul hx hb d_M_copy_58 ?_
        refine lv_iload_n hx hb d_M_copy_59 rfl (lv_at hl 3 rfl) ?_
        refine lv_iadd hx hb d_M_copy_60 ?_
        obtain ⟨v5, ev5, hi, h⟩ := kb_rd_some h
        refine kb_ald hx hb hw 6 5 rfl rfl hi ev5 d_M_copy_61 ?_
        obtain ⟨M6, eM6, hi, h⟩ := kb_wr_some h
        refine kb_ast (ws' := (wM A G M6)) hx hb hw 6 5 rfl rfl hi d_M_copy_62 (by rw [eM6]; rfl) (fun H locs hw => ?_)
        refine lv_iinc (v := (u3 + 1)) (lv' := [(3, .int (u3 + 1)), (0, .ref (A 0)), (1, .int u1), (2, .int u2)]) hx hb d_M_copy_63 hl (k := 3) rfl rfl (by decide) rfl (fun ls hl => ?_)
        refine lv_goto (tgt := 38) hx hb d_M_copy_66 (by decide) ?_
        exact ih u1 u2 (u3 + 1) M6 _ _ _ h hw (lv_sub hl [1, 2, 3, 0] rfl)
  have loop_2 : ∀ (n2 : Nat) (u1 u2 u3 : Int32) (M : Nat → Nat → Int32) (H : Heap) (locs : List Loc) (ls : Array Slot), h_M_copy_2 n2 u1 u2 u3 M = some (r, M') → kb_K D kcl (tyM G) (wM A G M) s (va_A (wM A G M0) sz) H locs → lv_has ls 4 [(0, .ref (A 0)), (1, .int u1), (2, .int u2), (3, .int u3)] → W p l e (headSpec (Cond.code y_M_copy b_M_copy 4 none :: wsM) { frames := 0, cells := 0, slots := 0, locals := 0 }).room s m ([.ref (A 0), .int x1, .int x2] : List Value).toArray below meth c H locs 0 0 (kb_Qv D kcl (tyM G) (wM A G M0) (wM A G M') sz below ([.ref (A 0), .int x1, .int x2] : List Value).toArray s) (F0 m 2 ls []) := by
    intro n2
    induction n2 with
    | zero =>
      intro u1 u2 u3 M H locs ls h
      cases h
    | succ n2 ih =>
      intro u1 u2 u3 M H locs ls h hw hl
      rw [h_M_copy_2] at h
      refine lv_iload_n hx hb d_M_copy_2 rfl (lv_at hl 3 rfl) ?_
      refine lv_bipush (v := 20) hx hb d_M_copy_3 (by decide) ?_
      refine lv_icmp_ge (tgt := 36) hx hb d_M_copy_5 (by decide) (fun c => ?_) (fun c => ?_)
      · have h := kb_ip c h
        refine lv_iconst (v := 0) hx hb d_M_copy_36 (by decide) ?_
        refine lv_istore_n (lv' := [(3, .int (0 : Int32)), (0, .ref (A 0)), (1, .int u1), (2, .int u2)]) hx hb d_M_copy_37 rfl hl (by decide) rfl (fun ls hl => ?_)
        exact loop_38 kb_F u1 u2 (0 : Int32) M _ _ _ h hw (lv_sub hl [1, 2, 3, 0] rfl)
      · have h := kb_in c h
        refine lv_aload_n hx hb d_M_copy_8 rfl (lv_at hl 0 rfl) ?_
        refine kb_get (own := "PileLiftsModel") (ref := "PileLiftsModel") (C := R_M) (T := F_M) (N := 22) hx hb htw i_M hown hw 0 (wM_0 A G _) rfl 8 (by decide) (htw _ mM_13) rfl rfl d_M_copy_9 ?_
        refine lv_bipush (v := 20) hx hb d_M_copy_12 (by decide) ?_
        refine lv_iload_n hx hb d_M_copy_14 rfl (lv_at hl 2 rfl) ?_
        refine lv_imul hx hb d_M_copy_15 ?_
        refine lv_iload_n hx hb d_M_copy_16 rfl (lv_at hl 3 rfl) ?_
        refine lv_iadd hx hb d_M_copy_17 ?_
        refine lv_aload_n hx hb d_M_copy_18 rfl (lv_at hl 0 rfl) ?_
        refine kb_get (own := "PileLiftsModel") (ref := "PileLiftsModel") (C := R_M) (T := F_M) (N := 22) hx hb htw i_M hown hw 0 (wM_0 A G _) rfl 8 (by decide) (htw _ mM_13) rfl rfl d_M_copy_19 ?_
        refine lv_bipush (v := 20) hx hb d_M_copy_22 (by decide) ?_
        refine lv_iload_n hx hb d_M_copy_24 rfl (lv_at hl 1 rfl) ?_
        refine lv_imul hx hb d_M_copy_25 ?_
        refine lv_iload_n hx hb d_M_copy_26 rfl (lv_at hl 3 rfl) ?_
        refine lv_iadd hx hb d_M_copy_27 ?_
        obtain ⟨v7, ev7, hi, h⟩ := kb_rd_some h
        refine kb_ald hx hb hw 5 4 rfl rfl hi ev7 d_M_copy_28 ?_
        obtain ⟨M8, eM8, hi, h⟩ := kb_wr_some h
        refine kb_ast (ws' := (wM A G M8)) hx hb hw 5 4 rfl rfl hi d_M_copy_29 (by rw [eM8]; rfl) (fun H locs hw => ?_)
        refine lv_iinc (v := (u3 + 1)) (lv' := [(3, .int (u3 + 1)), (0, .ref (A 0)), (1, .int u1), (2, .int u2)]) hx hb d_M_copy_30 hl (k := 3) rfl rfl (by decide) rfl (fun ls hl => ?_)
        refine lv_goto (tgt := 2) hx hb d_M_copy_33 (by decide) ?_
        exact ih u1 u2 (u3 + 1) M8 _ _ _ h hw (lv_sub hl [1, 2, 3, 0] rfl)
  have hl := lv_entry ([.ref (A 0), .int x1, .int x2]) (n := 4) (Nat.le_of_ble_eq_true rfl)
  rw [lg_entry_eq]
  generalize (lg_sl ([.ref (A 0), .int x1, .int x2]) ++ List.replicate (4 - (lg_sl ([.ref (A 0), .int x1, .int x2])).length) Slot.unset).toArray = ls at hl ⊢
  have hl : lv_has ls 4 [(0, .ref (A 0)), (1, .int x1), (2, .int x2)] := hl
  rw [f_M_copy] at h
  refine lv_iconst (v := 0) hx hb d_M_copy_0 (by decide) ?_
  refine lv_istore_n (lv' := [(3, .int (0 : Int32)), (0, .ref (A 0)), (1, .int x1), (2, .int x2)]) hx hb d_M_copy_1 rfl hl (by decide) rfl (fun ls hl => ?_)
  exact loop_2 kb_F x1 x2 (0 : Int32) M0 _ _ _ h hw (lv_sub hl [1, 2, 3, 0] rfl)
def f_M_says (x1 x2 x3 : Int32) (M0 : Nat → Nat → Int32) : Option (Int32 × (Nat → Nat → Int32)) := kb_rd (M0 11) 15 x1 (fun v1 => kb_wr M0 9 40 v1 x2 (fun M2 => kb_rd (M2 11) 15 x1 (fun v3 => kb_wr M2 10 40 v3 x3 (fun M4 => kb_rd (M4 11) 15 x1 (fun v5 => kb_wr M4 11 15 x1 (v5 + (1 : Int32)) (fun M6 => some ((0 : Int32), M6)))))))
set_option maxHeartbeats 4000000 in
set_option maxRecDepth 100000 in
theorem c_M_says (l : Launch) (D : va_G) (A : Nat → Nat) (G : Nat → ClassId) (x1 x2 x3 : Int32) (M0 : Nat → Nat → Int32) (r : Int32) (M' : Nat → Nat → Int32) (sz : Nat) (h : f_M_says x1 x2 x3 M0 = some (r, M')) : kb_Cv l y_M_says (Cond.code y_M_says b_M_says 4 none :: wsM) { frames := 0, cells := 0, slots := 0, locals := 0 } [.ref (A 0), .int x1, .int x2, .int x3] D kcl (tyM G) (wM A G M0) (wM A G M') nnM sz := by
  refine Met.ofW (cc := b_M_says) (maxL := 4) (ret := none) (by decide) rfl ?_
  intro p e s m args below meth c s₁ B hml hv
  obtain ⟨rfl, hpre⟩ := hv
  obtain ⟨hw, hN⟩ := kb_enter hpre
  have hx := B.exec
  have hb := B.bytes
  have hr := B.returns
  have hts := atoms_spec (ws := (Cond.code y_M_says b_M_says 4 none :: wsM)) B.pre
  have htw : ∀ w ∈ wsM, w.before ([.ref (A 0), .int x1, .int x2, .int x3] : List Value).toArray s = true := fun w h => hts w (List.mem_cons_of_mem _ h)
  have hown : s.vm.findClass "PileLiftsModel" = some m.cls := findClass_of_methodNamed B.named
  have hlocks := B.notSynchronized
  have hl := lv_entry ([.ref (A 0), .int x1, .int x2, .int x3]) (n := 4) (Nat.le_of_ble_eq_true rfl)
  rw [lg_entry_eq]
  generalize (lg_sl ([.ref (A 0), .int x1, .int x2, .int x3]) ++ List.replicate (4 - (lg_sl ([.ref (A 0), .int x1, .int x2, .int x3])).length) Slot.unset).toArray = ls at hl ⊢
  have hl : lv_has ls 4 [(0, .ref (A 0)), (1, .int x1), (2, .int x2), (3, .int x3)] := hl
  rw [f_M_says] at h
  refine lv_aload_n hx hb d_M_says_0 rfl (lv_at hl 0 rfl) ?_
  refine kb_get (own := "PileLiftsModel") (ref := "PileLiftsModel") (C := R_M) (T := F_M) (N := 22) hx hb htw i_M hown hw 0 (wM_0 A G _) rfl 12 (by decide) (htw _ mM_17) rfl rfl d_M_says_1 ?_
  refine lv_aload_n hx hb d_M_says_4 rfl (lv_at hl 0 rfl) ?_
  refine kb_get (own := "PileLiftsModel") (ref := "PileLiftsModel") (C := R_M) (T := F_M) (N := 22) hx hb htw i_M hown hw 0 (wM_0 A G _) rfl 14 (by decide) (htw _ mM_19) rfl rfl d_M_says_5 ?_
  refine lv_iload_n hx hb d_M_says_8 rfl (lv_at hl 1 rfl) ?_
  obtain ⟨v1, ev1, hi, h⟩ := kb_rd_some h
  refine kb_ald hx hb hw 11 10 rfl rfl hi ev1 d_M_says_9 ?_
  refine lv_iload_n hx hb d_M_says_10 rfl (lv_at hl 2 rfl) ?_
  obtain ⟨M2, eM2, hi, h⟩ := kb_wr_some h
  refine kb_ast (ws' := (wM A G M2)) hx hb hw 9 8 rfl rfl hi d_M_says_11 (by rw [eM2]; rfl) (fun H locs hw => ?_)
  refine lv_aload_n hx hb d_M_says_12 rfl (lv_at hl 0 rfl) ?_
  refine kb_get (own := "PileLiftsModel") (ref := "PileLiftsModel") (C := R_M) (T := F_M) (N := 22) hx hb htw i_M hown hw 0 (wM_0 A G _) rfl 13 (by decide) (htw _ mM_18) rfl rfl d_M_says_13 ?_
  refine lv_aload_n hx hb d_M_says_16 rfl (lv_at hl 0 rfl) ?_
  refine kb_get (own := "PileLiftsModel") (ref := "PileLiftsModel") (C := R_M) (T := F_M) (N := 22) hx hb htw i_M hown hw 0 (wM_0 A G _) rfl 14 (by decide) (htw _ mM_19) rfl rfl d_M_says_17 ?_
  refine lv_iload_n hx hb d_M_says_20 rfl (lv_at hl 1 rfl) ?_
  obtain ⟨v3, ev3, hi, h⟩ := kb_rd_some h
  refine kb_ald hx hb hw 11 10 rfl rfl hi ev3 d_M_says_21 ?_
  refine lv_iload_n hx hb d_M_says_22 rfl (lv_at hl 3 rfl) ?_
  obtain ⟨M4, eM4, hi, h⟩ := kb_wr_some h
  refine kb_ast (ws' := (wM A G M4)) hx hb hw 10 9 rfl rfl hi d_M_says_23 (by rw [eM4]; rfl) (fun H locs hw => ?_)
  refine lv_aload_n hx hb d_M_says_24 rfl (lv_at hl 0 rfl) ?_
  refine kb_get (own := "PileLiftsModel") (ref := "PileLiftsModel") (C := R_M) (T := F_M) (N := 22) hx hb htw i_M hown hw 0 (wM_0 A G _) rfl 14 (by decide) (htw _ mM_19) rfl rfl d_M_says_25 ?_
  refine lv_iload_n hx hb d_M_says_28 rfl (lv_at hl 1 rfl) ?_
  refine lv_dup2_11 hx hb d_M_says_29 rfl rfl ?_
  obtain ⟨v5, ev5, hi, h⟩ := kb_rd_some h
  refine kb_ald hx hb hw 11 10 rfl rfl hi ev5 d_M_says_30 ?_
  refine lv_iconst (v := 1) hx hb d_M_says_31 (by decide) ?_
  refine lv_iadd hx hb d_M_says_32 ?_
  obtain ⟨M6, eM6, hi, h⟩ := kb_wr_some h
  refine kb_ast (ws' := (wM A G M6)) hx hb hw 11 10 rfl rfl hi d_M_says_33 (by rw [eM6]; rfl) (fun H locs hw => ?_)
  obtain ⟨-, rfl⟩ := kb_rt h
  exact kb_vret hx hb hr hw hlocks d_M_says_34
def f_M_topOf (x1 x2 : Int32) (M0 : Nat → Nat → Int32) : Option (Int32 × (Nat → Nat → Int32)) := kb_rd (M0 6) 60 (((4 : Int32) * x1) + x2) (fun v1 => (if v1 = (0 : Int32) then some ((-1 : Int32), M0) else kb_rd (M0 6) 60 (((4 : Int32) * x1) + x2) (fun v2 => kb_cl (f_M_cell x1 x2 (v2 - (1 : Int32)) M0) (fun r3 M4 => kb_rd (M4 5) 300 r3 (fun v5 => some (v5, M4))))))
set_option maxHeartbeats 4000000 in
set_option maxRecDepth 100000 in
theorem c_M_topOf (l : Launch) (D : va_G) (A : Nat → Nat) (G : Nat → ClassId) (x1 x2 : Int32) (M0 : Nat → Nat → Int32) (r : Int32) (M' : Nat → Nat → Int32) (sz : Nat) (h : f_M_topOf x1 x2 M0 = some (r, M')) : kb_Ci l y_M_topOf (Cond.code y_M_topOf b_M_topOf 3 (some .int) :: wsM) { frames := 1, cells := 0, slots := 0, locals := 22 } [.ref (A 0), .int x1, .int x2] D kcl (tyM G) (wM A G M0) (wM A G M') nnM sz r := by
  refine Met.ofW (cc := b_M_topOf) (maxL := 3) (ret := (some .int)) (by decide) rfl ?_
  intro p e s m args below meth c s₁ B hml hv
  obtain ⟨rfl, hpre⟩ := hv
  obtain ⟨hw, hN⟩ := kb_enter hpre
  have hx := B.exec
  have hb := B.bytes
  have hr := B.returns
  have hts := atoms_spec (ws := (Cond.code y_M_topOf b_M_topOf 3 (some .int) :: wsM)) B.pre
  have htw : ∀ w ∈ wsM, w.before ([.ref (A 0), .int x1, .int x2] : List Value).toArray s = true := fun w h => hts w (List.mem_cons_of_mem _ h)
  have hown : s.vm.findClass "PileLiftsModel" = some m.cls := findClass_of_methodNamed B.named
  have hlocks := B.notSynchronized
  have hl := lv_entry ([.ref (A 0), .int x1, .int x2]) (n := 3) (Nat.le_of_ble_eq_true rfl)
  rw [lg_entry_eq]
  generalize (lg_sl ([.ref (A 0), .int x1, .int x2]) ++ List.replicate (3 - (lg_sl ([.ref (A 0), .int x1, .int x2])).length) Slot.unset).toArray = ls at hl ⊢
  have hl : lv_has ls 3 [(0, .ref (A 0)), (1, .int x1), (2, .int x2)] := hl
  rw [f_M_topOf] at h
  refine lv_aload_n hx hb d_M_topOf_0 rfl (lv_at hl 0 rfl) ?_
  refine kb_get (own := "PileLiftsModel") (ref := "PileLiftsModel") (C := R_M) (T := F_M) (N := 22) hx hb htw i_M hown hw 0 (wM_0 A G _) rfl 9 (by decide) (htw _ mM_14) rfl rfl d_M_topOf_1 ?_
  refine lv_iconst (v := 4) hx hb d_M_topOf_4 (by decide) ?_
  refine lv_iload_n hx hb d_M_topOf_5 rfl (lv_at hl 1 rfl) ?_
  refine lv_imul hx hb d_M_topOf_6 ?_
  refine lv_iload_n hx hb d_M_topOf_7 rfl (lv_at hl 2 rfl) ?_
  refine lv_iadd hx hb d_M_topOf_8 ?_
  obtain ⟨v1, ev1, hi, h⟩ := kb_rd_some h
  refine kb_ald hx hb hw 6 5 rfl rfl hi ev1 d_M_topOf_9 ?_
  refine lv_if_ne (tgt := 17) hx hb d_M_topOf_10 (by decide) (fun c => ?_) (fun c => ?_)
  · have h := kb_in c h
    refine lv_aload_n hx hb d_M_topOf_17 rfl (lv_at hl 0 rfl) ?_
    refine kb_get (own := "PileLiftsModel") (ref := "PileLiftsModel") (C := R_M) (T := F_M) (N := 22) hx hb htw i_M hown hw 0 (wM_0 A G _) rfl 8 (by decide) (htw _ mM_13) rfl rfl d_M_topOf_18 ?_
    refine lv_iload_n hx hb d_M_topOf_21 rfl (lv_at hl 1 rfl) ?_
    refine lv_iload_n hx hb d_M_topOf_22 rfl (lv_at hl 2 rfl) ?_
    refine lv_aload_n hx hb d_M_topOf_23 rfl (lv_at hl 0 rfl) ?_
    refine kb_get (own := "PileLiftsModel") (ref := "PileLiftsModel") (C := R_M) (T := F_M) (N := 22) hx hb htw i_M hown hw 0 (wM_0 A G _) rfl 9 (by decide) (htw _ mM_14) rfl rfl d_M_topOf_24 ?_
    refine lv_iconst (v := 4) hx hb d_M_topOf_27 (by decide) ?_
    refine lv_iload_n hx hb d_M_topOf_28 rfl (lv_at hl 1 rfl) ?_
    refine lv_imul hx hb d_M_topOf_29 ?_
    refine lv_iload_n hx hb d_M_topOf_30 rfl (lv_at hl 2 rfl) ?_
    refine lv_iadd hx hb d_M_topOf_31 ?_
    obtain ⟨v2, ev2, hi, h⟩ := kb_rd_some h
    refine kb_ald hx hb hw 6 5 rfl rfl hi ev2 d_M_topOf_32 ?_
    refine lv_iconst (v := 1) hx hb d_M_topOf_33 (by decide) ?_
    refine lv_isub hx hb d_M_topOf_34 ?_
    obtain ⟨r3, M4, hc, h⟩ := kb_cl_some h
    refine kb_calli0 (va_runS (As := [.int x1, .int x2, .int (v2 - (1 : Int32))]) (rest := [.ref (A 5)]) ⟨hx, hb, hml, hown, htw⟩ (c_M_cell l D A G x1 x2 (v2 - (1 : Int32)) M0 _ _ s.heap.size hc) ⟨(callB_of 3 htw (wsM_self mM_72) rfl rfl rfl (htw _ mM_0) (htw _ mM_70) q_M_cell ⟨by show 0 + 1 ≤ 1; omega, by show 8 + (3 + 11) + 0 ≤ 22; omega⟩), htw _ mM_71⟩ (kb_preS nnM_warm nnM_same hw hN ) rfl rfl hl.1 rfl (lv_room (Nat.le_of_ble_eq_true rfl)) d_M_topOf_35 ⟨Nat.zero_le _, Nat.zero_le _⟩) hw (fun H locs hw => ?_)
    obtain ⟨v5, ev5, hi, h⟩ := kb_rd_some h
    refine kb_ald hx hb hw 5 4 rfl rfl hi ev5 d_M_topOf_38 ?_
    obtain ⟨rfl, rfl⟩ := kb_rt h
    exact kb_iret hx hb hr hw hlocks d_M_topOf_39
  · have h := kb_ip c h
    refine lv_iconst (v := -1) hx hb d_M_topOf_13 (by decide) ?_
    refine lv_goto (tgt := 39) hx hb d_M_topOf_14 (by decide) ?_
    obtain ⟨rfl, rfl⟩ := kb_rt h
    exact kb_iret hx hb hr hw hlocks d_M_topOf_39
def f_M_lift (x1 x2 x3 : Int32) (M0 : Nat → Nat → Int32) : Option (Int32 × (Nat → Nat → Int32)) := kb_cl (f_M_topOf x1 x2 M0) (fun r1 M2 => kb_rd (M2 6) 60 (((4 : Int32) * x1) + x2) (fun v3 => kb_wr M2 6 60 (((4 : Int32) * x1) + x2) (v3 - (1 : Int32)) (fun M4 => kb_rd (M4 6) 60 (((4 : Int32) * x1) + x3) (fun v5 => kb_cl (f_M_cell x1 x3 v5 M4) (fun r6 M7 => kb_wr M7 5 300 r6 r1 (fun M8 => kb_rd (M8 6) 60 (((4 : Int32) * x1) + x3) (fun v9 => kb_wr M8 6 60 (((4 : Int32) * x1) + x3) (v9 + (1 : Int32)) (fun M10 => some ((0 : Int32), M10)))))))))
set_option maxHeartbeats 4000000 in
set_option maxRecDepth 100000 in
theorem c_M_lift (l : Launch) (D : va_G) (A : Nat → Nat) (G : Nat → ClassId) (x1 x2 x3 : Int32) (M0 : Nat → Nat → Int32) (r : Int32) (M' : Nat → Nat → Int32) (sz : Nat) (h : f_M_lift x1 x2 x3 M0 = some (r, M')) : kb_Cv l y_M_lift (Cond.code y_M_lift b_M_lift 5 none :: wsM) { frames := 2, cells := 0, slots := 0, locals := 44 } [.ref (A 0), .int x1, .int x2, .int x3] D kcl (tyM G) (wM A G M0) (wM A G M') nnM sz := by
  refine Met.ofW (cc := b_M_lift) (maxL := 5) (ret := none) (by decide) rfl ?_
  intro p e s m args below meth c s₁ B hml hv
  obtain ⟨rfl, hpre⟩ := hv
  obtain ⟨hw, hN⟩ := kb_enter hpre
  have hx := B.exec
  have hb := B.bytes
  have hr := B.returns
  have hts := atoms_spec (ws := (Cond.code y_M_lift b_M_lift 5 none :: wsM)) B.pre
  have htw : ∀ w ∈ wsM, w.before ([.ref (A 0), .int x1, .int x2, .int x3] : List Value).toArray s = true := fun w h => hts w (List.mem_cons_of_mem _ h)
  have hown : s.vm.findClass "PileLiftsModel" = some m.cls := findClass_of_methodNamed B.named
  have hlocks := B.notSynchronized
  have hl := lv_entry ([.ref (A 0), .int x1, .int x2, .int x3]) (n := 5) (Nat.le_of_ble_eq_true rfl)
  rw [lg_entry_eq]
  generalize (lg_sl ([.ref (A 0), .int x1, .int x2, .int x3]) ++ List.replicate (5 - (lg_sl ([.ref (A 0), .int x1, .int x2, .int x3])).length) Slot.unset).toArray = ls at hl ⊢
  have hl : lv_has ls 5 [(0, .ref (A 0)), (1, .int x1), (2, .int x2), (3, .int x3)] := hl
  rw [f_M_lift] at h
  refine lv_aload_n hx hb d_M_lift_0 rfl (lv_at hl 0 rfl) ?_
  refine lv_iload_n hx hb d_M_lift_1 rfl (lv_at hl 1 rfl) ?_
  refine lv_iload_n hx hb d_M_lift_2 rfl (lv_at hl 2 rfl) ?_
  obtain ⟨r1, M2, hc, h⟩ := kb_cl_some h
  refine kb_calli0 (va_runV (As := [.int x1, .int x2]) (rest := []) ⟨hx, hb, hml, hown, htw⟩ (c_M_topOf l D A G x1 x2 M0 _ _ s.heap.size hc) ⟨(callB_of 2 htw (wsM_self mM_115) rfl rfl rfl (htw _ mM_0) (htw _ mM_113) q_M_topOf ⟨by show 1 + 1 ≤ 2; omega, by show 8 + (3 + 11) + 22 ≤ 44; omega⟩), htw _ mM_114, htw _ mM_161⟩ (kb_preV nnM_warm nnM_same hw hN 0 (wM_0 A G _) rfl) rfl rfl hl.1 rfl (lv_room (Nat.le_of_ble_eq_true rfl)) d_M_lift_3 ⟨Nat.zero_le _, Nat.zero_le _⟩) hw (fun H locs hw => ?_)
  refine lv_istore (lv' := [(4, .int r1), (0, .ref (A 0)), (1, .int x1), (2, .int x2), (3, .int x3)]) hx hb d_M_lift_6 hl (by decide) rfl (fun ls hl => ?_)
  refine lv_aload_n hx hb d_M_lift_8 rfl (lv_at hl 1 rfl) ?_
  refine kb_get (own := "PileLiftsModel") (ref := "PileLiftsModel") (C := R_M) (T := F_M) (N := 22) hx hb htw i_M hown hw 0 (wM_0 A G _) rfl 9 (by decide) (htw _ mM_14) rfl rfl d_M_lift_9 ?_
  refine lv_iconst (v := 4) hx hb d_M_lift_12 (by decide) ?_
  refine lv_iload_n hx hb d_M_lift_13 rfl (lv_at hl 2 rfl) ?_
  refine lv_imul hx hb d_M_lift_14 ?_
  refine lv_iload_n hx hb d_M_lift_15 rfl (lv_at hl 3 rfl) ?_
  refine lv_iadd hx hb d_M_lift_16 ?_
  refine lv_dup2_11 hx hb d_M_lift_17 rfl rfl ?_
  obtain ⟨v3, ev3, hi, h⟩ := kb_rd_some h
  refine kb_ald hx hb hw 6 5 rfl rfl hi ev3 d_M_lift_18 ?_
  refine lv_iconst (v := 1) hx hb d_M_lift_19 (by decide) ?_
  refine lv_isub hx hb d_M_lift_20 ?_
  obtain ⟨M4, eM4, hi, h⟩ := kb_wr_some h
  refine kb_ast (ws' := (wM A G M4)) hx hb hw 6 5 rfl rfl hi d_M_lift_21 (by rw [eM4]; rfl) (fun H locs hw => ?_)
  refine lv_aload_n hx hb d_M_lift_22 rfl (lv_at hl 1 rfl) ?_
  refine kb_get (own := "PileLiftsModel") (ref := "PileLiftsModel") (C := R_M) (T := F_M) (N := 22) hx hb htw i_M hown hw 0 (wM_0 A G _) rfl 8 (by decide) (htw _ mM_13) rfl rfl d_M_lift_23 ?_
  refine lv_iload_n hx hb d_M_lift_26 rfl (lv_at hl 2 rfl) ?_
  refine lv_iload_n hx hb d_M_lift_27 rfl (lv_at hl 4 rfl) ?_
  refine lv_aload_n hx hb d_M_lift_28 rfl (lv_at hl 1 rfl) ?_
  refine kb_get (own := "PileLiftsModel") (ref := "PileLiftsModel") (C := R_M) (T := F_M) (N := 22) hx hb htw i_M hown hw 0 (wM_0 A G _) rfl 9 (by decide) (htw _ mM_14) rfl rfl d_M_lift_29 ?_
  refine lv_iconst (v := 4) hx hb d_M_lift_32 (by decide) ?_
  refine lv_iload_n hx hb d_M_lift_33 rfl (lv_at hl 2 rfl) ?_
  refine lv_imul hx hb d_M_lift_34 ?_
  refine lv_iload_n hx hb d_M_lift_35 rfl (lv_at hl 4 rfl) ?_
  refine lv_iadd hx hb d_M_lift_36 ?_
  obtain ⟨v5, ev5, hi, h⟩ := kb_rd_some h
  refine kb_ald hx hb hw 6 5 rfl rfl hi ev5 d_M_lift_37 ?_
  obtain ⟨r6, M7, hc, h⟩ := kb_cl_some h
  refine kb_calli0 (va_runS (As := [.int x1, .int x3, .int v5]) (rest := [.ref (A 5)]) ⟨hx, hb, hml, hown, htw⟩ (c_M_cell l D A G x1 x3 v5 M4 _ _ H.size hc) ⟨(callB_of 3 htw (wsM_self mM_72) rfl rfl rfl (htw _ mM_0) (htw _ mM_70) q_M_cell ⟨by show 0 + 1 ≤ 2; omega, by show 8 + (3 + 11) + 0 ≤ 44; omega⟩), htw _ mM_71⟩ (kb_preS nnM_warm nnM_same hw hN ) rfl rfl hl.1 rfl (lv_room (Nat.le_of_ble_eq_true rfl)) d_M_lift_38 ⟨Nat.zero_le _, Nat.zero_le _⟩) hw (fun H locs hw => ?_)
  refine lv_iload hx hb d_M_lift_41 (lv_at hl 0 rfl) ?_
  obtain ⟨M8, eM8, hi, h⟩ := kb_wr_some h
  refine kb_ast (ws' := (wM A G M8)) hx hb hw 5 4 rfl rfl hi d_M_lift_43 (by rw [eM8]; rfl) (fun H locs hw => ?_)
  refine lv_aload_n hx hb d_M_lift_44 rfl (lv_at hl 1 rfl) ?_
  refine kb_get (own := "PileLiftsModel") (ref := "PileLiftsModel") (C := R_M) (T := F_M) (N := 22) hx hb htw i_M hown hw 0 (wM_0 A G _) rfl 9 (by decide) (htw _ mM_14) rfl rfl d_M_lift_45 ?_
  refine lv_iconst (v := 4) hx hb d_M_lift_48 (by decide) ?_
  refine lv_iload_n hx hb d_M_lift_49 rfl (lv_at hl 2 rfl) ?_
  refine lv_imul hx hb d_M_lift_50 ?_
  refine lv_iload_n hx hb d_M_lift_51 rfl (lv_at hl 4 rfl) ?_
  refine lv_iadd hx hb d_M_lift_52 ?_
  refine lv_dup2_11 hx hb d_M_lift_53 rfl rfl ?_
  obtain ⟨v9, ev9, hi, h⟩ := kb_rd_some h
  refine kb_ald hx hb hw 6 5 rfl rfl hi ev9 d_M_lift_54 ?_
  refine lv_iconst (v := 1) hx hb d_M_lift_55 (by decide) ?_
  refine lv_iadd hx hb d_M_lift_56 ?_
  obtain ⟨M10, eM10, hi, h⟩ := kb_wr_some h
  refine kb_ast (ws' := (wM A G M10)) hx hb hw 6 5 rfl rfl hi d_M_lift_57 (by rw [eM10]; rfl) (fun H locs hw => ?_)
  obtain ⟨-, rfl⟩ := kb_rt h
  exact kb_vret hx hb hr hw hlocks d_M_lift_58
def h_M_nextWanted_4 : Nat → Int32 → Int32 → Int32 → (Nat → Nat → Int32) → Option (Int32 × (Nat → Nat → Int32))
  | 0, _, _, _, _ => none
  | n + 1, u1, u2, u3, M => (if (M 0 3) ≤ u3 then some (u2, M) else kb_cl (f_M_isGone u1 u3 M) (fun r1 M2 => (if r1 = (0 : Int32) then kb_rd (M2 3) 10 u3 (fun v3 => (if v3 < (0 : Int32) then h_M_nextWanted_4 n u1 u2 (u3 + 1) M2 else (if u2 < (0 : Int32) then h_M_nextWanted_4 n u1 u3 (u3 + 1) M2 else kb_cl (f_M_isAhead u3 u2 M2) (fun r4 M5 => (if r4 = (0 : Int32) then h_M_nextWanted_4 n u1 u2 (u3 + 1) M5 else h_M_nextWanted_4 n u1 u3 (u3 + 1) M5))))) else h_M_nextWanted_4 n u1 u2 (u3 + 1) M2)))
def f_M_nextWanted (x1 : Int32) (M0 : Nat → Nat → Int32) : Option (Int32 × (Nat → Nat → Int32)) := h_M_nextWanted_4 kb_F x1 (-1 : Int32) (0 : Int32) M0
set_option maxHeartbeats 4000000 in
set_option maxRecDepth 100000 in
theorem c_M_nextWanted (l : Launch) (D : va_G) (A : Nat → Nat) (G : Nat → ClassId) (x1 : Int32) (M0 : Nat → Nat → Int32) (r : Int32) (M' : Nat → Nat → Int32) (sz : Nat) (h : f_M_nextWanted x1 M0 = some (r, M')) : kb_Ci l y_M_nextWanted (Cond.code y_M_nextWanted b_M_nextWanted 4 (some .int) :: wsM) { frames := 1, cells := 0, slots := 0, locals := 22 } [.ref (A 0), .int x1] D kcl (tyM G) (wM A G M0) (wM A G M') nnM sz r := by
  refine Met.ofW (cc := b_M_nextWanted) (maxL := 4) (ret := (some .int)) (by decide) rfl ?_
  intro p e s m args below meth c s₁ B hml hv
  obtain ⟨rfl, hpre⟩ := hv
  obtain ⟨hw, hN⟩ := kb_enter hpre
  have hx := B.exec
  have hb := B.bytes
  have hr := B.returns
  have hts := atoms_spec (ws := (Cond.code y_M_nextWanted b_M_nextWanted 4 (some .int) :: wsM)) B.pre
  have htw : ∀ w ∈ wsM, w.before ([.ref (A 0), .int x1] : List Value).toArray s = true := fun w h => hts w (List.mem_cons_of_mem _ h)
  have hown : s.vm.findClass "PileLiftsModel" = some m.cls := findClass_of_methodNamed B.named
  have hlocks := B.notSynchronized
  have loop_4 : ∀ (n4 : Nat) (u1 u2 u3 : Int32) (M : Nat → Nat → Int32) (H : Heap) (locs : List Loc) (ls : Array Slot), h_M_nextWanted_4 n4 u1 u2 u3 M = some (r, M') → kb_K D kcl (tyM G) (wM A G M) s (va_A (wM A G M0) sz) H locs → lv_has ls 4 [(0, .ref (A 0)), (1, .int u1), (2, .int u2), (3, .int u3)] → W p l e (headSpec (Cond.code y_M_nextWanted b_M_nextWanted 4 (some .int) :: wsM) { frames := 1, cells := 0, slots := 0, locals := 22 }).room s m ([.ref (A 0), .int x1] : List Value).toArray below meth c H locs 0 0 (kb_Qi D kcl (tyM G) (wM A G M0) (wM A G M') sz r below ([.ref (A 0), .int x1] : List Value).toArray s) (F0 m 4 ls []) := by
    intro n4
    induction n4 with
    | zero =>
      intro u1 u2 u3 M H locs ls h
      cases h
    | succ n4 ih =>
      intro u1 u2 u3 M H locs ls h hw hl
      rw [h_M_nextWanted_4] at h
      refine lv_iload_n hx hb d_M_nextWanted_4 rfl (lv_at hl 3 rfl) ?_
      refine lv_aload_n hx hb d_M_nextWanted_5 rfl (lv_at hl 0 rfl) ?_
      refine kb_get (own := "PileLiftsModel") (ref := "PileLiftsModel") (C := R_M) (T := F_M) (N := 22) hx hb htw i_M hown hw 0 (wM_0 A G _) rfl 3 (by decide) (htw _ mM_8) rfl rfl d_M_nextWanted_6 ?_
      refine lv_icmp_ge (tgt := 51) hx hb d_M_nextWanted_9 (by decide) (fun c => ?_) (fun c => ?_)
      · have h := kb_ip c h
        refine lv_iload_n hx hb d_M_nextWanted_51 rfl (lv_at hl 2 rfl) ?_
        obtain ⟨rfl, rfl⟩ := kb_rt h
        exact kb_iret hx hb hr hw hlocks d_M_nextWanted_52
      · have h := kb_in c h
        refine lv_aload_n hx hb d_M_nextWanted_12 rfl (lv_at hl 0 rfl) ?_
        refine lv_iload_n hx hb d_M_nextWanted_13 rfl (lv_at hl 1 rfl) ?_
        refine lv_iload_n hx hb d_M_nextWanted_14 rfl (lv_at hl 3 rfl) ?_
        obtain ⟨r1, M2, hc, h⟩ := kb_cl_some h
        refine kb_calli0 (va_runV (As := [.int u1, .int u3]) (rest := []) ⟨hx, hb, hml, hown, htw⟩ (c_M_isGone l D A G u1 u3 M _ _ H.size hc) ⟨(callB_of 2 htw (wsM_self mM_81) rfl rfl rfl (htw _ mM_0) (htw _ mM_79) q_M_isGone ⟨by show 0 + 1 ≤ 1; omega, by show 8 + (3 + 11) + 0 ≤ 22; omega⟩), htw _ mM_80, htw _ mM_153⟩ (kb_preV nnM_warm nnM_same hw hN 0 (wM_0 A G _) rfl) rfl rfl hl.1 rfl (lv_room (Nat.le_of_ble_eq_true rfl)) d_M_nextWanted_15 ⟨Nat.zero_le _, Nat.zero_le _⟩) hw (fun H locs hw => ?_)
        refine lv_if_ne (tgt := 45) hx hb d_M_nextWanted_18 (by decide) (fun c => ?_) (fun c => ?_)
        · have h := kb_in c h
          refine lv_iinc (v := (u3 + 1)) (lv' := [(3, .int (u3 + 1)), (0, .ref (A 0)), (1, .int u1), (2, .int u2)]) hx hb d_M_nextWanted_45 hl (k := 3) rfl rfl (by decide) rfl (fun ls hl => ?_)
          refine lv_goto (tgt := 4) hx hb d_M_nextWanted_48 (by decide) ?_
          exact ih u1 u2 (u3 + 1) M2 _ _ _ h hw (lv_sub hl [1, 2, 3, 0] rfl)
        · have h := kb_ip c h
          refine lv_aload_n hx hb d_M_nextWanted_21 rfl (lv_at hl 0 rfl) ?_
          refine kb_get (own := "PileLiftsModel") (ref := "PileLiftsModel") (C := R_M) (T := F_M) (N := 22) hx hb htw i_M hown hw 0 (wM_0 A G _) rfl 6 (by decide) (htw _ mM_11) rfl rfl d_M_nextWanted_22 ?_
          refine lv_iload_n hx hb d_M_nextWanted_25 rfl (lv_at hl 3 rfl) ?_
          obtain ⟨v3, ev3, hi, h⟩ := kb_rd_some h
          refine kb_ald hx hb hw 3 2 rfl rfl hi ev3 d_M_nextWanted_26 ?_
          refine lv_if_lt (tgt := 45) hx hb d_M_nextWanted_27 (by decide) (fun c => ?_) (fun c => ?_)
          · have h := kb_ip c h
            refine lv_iinc (v := (u3 + 1)) (lv' := [(3, .int (u3 + 1)), (0, .ref (A 0)), (1, .int u1), (2, .int u2)]) hx hb d_M_nextWanted_45 hl (k := 3) rfl rfl (by decide) rfl (fun ls hl => ?_)
            refine lv_goto (tgt := 4) hx hb d_M_nextWanted_48 (by decide) ?_
            exact ih u1 u2 (u3 + 1) M2 _ _ _ h hw (lv_sub hl [1, 2, 3, 0] rfl)
          · have h := kb_in c h
            refine lv_iload_n hx hb d_M_nextWanted_30 rfl (lv_at hl 2 rfl) ?_
            refine lv_if_lt (tgt := 43) hx hb d_M_nextWanted_31 (by decide) (fun c => ?_) (fun c => ?_)
            · have h := kb_ip c h
              refine lv_iload_n hx hb d_M_nextWanted_43 rfl (lv_at hl 3 rfl) ?_
              refine lv_istore_n (lv' := [(2, .int u3), (0, .ref (A 0)), (1, .int u1), (3, .int u3)]) hx hb d_M_nextWanted_44 rfl hl (by decide) rfl (fun ls hl => ?_)
              refine lv_iinc (v := (u3 + 1)) (lv' := [(3, .int (u3 + 1)), (2, .int u3), (0, .ref (A 0)), (1, .int u1)]) hx hb d_M_nextWanted_45 hl (k := 3) rfl rfl (by decide) rfl (fun ls hl => ?_)
              refine lv_goto (tgt := 4) hx hb d_M_nextWanted_48 (by decide) ?_
              exact ih u1 u3 (u3 + 1) M2 _ _ _ h hw (lv_sub hl [2, 3, 1, 0] rfl)
            · have h := kb_in c h
              refine lv_aload_n hx hb d_M_nextWanted_34 rfl (lv_at hl 0 rfl) ?_
              refine lv_iload_n hx hb d_M_nextWanted_35 rfl (lv_at hl 3 rfl) ?_
              refine lv_iload_n hx hb d_M_nextWanted_36 rfl (lv_at hl 2 rfl) ?_
              obtain ⟨r4, M5, hc, h⟩ := kb_cl_some h
              refine kb_calli0 (va_runV (As := [.int u3, .int u2]) (rest := []) ⟨hx, hb, hml, hown, htw⟩ (c_M_isAhead l D A G u3 u2 M2 _ _ H.size hc) ⟨(callB_of 2 htw (wsM_self mM_96) rfl rfl rfl (htw _ mM_0) (htw _ mM_94) q_M_isAhead ⟨by show 0 + 1 ≤ 1; omega, by show 8 + (3 + 11) + 0 ≤ 22; omega⟩), htw _ mM_95, htw _ mM_156⟩ (kb_preV nnM_warm nnM_same hw hN 0 (wM_0 A G _) rfl) rfl rfl hl.1 rfl (lv_room (Nat.le_of_ble_eq_true rfl)) d_M_nextWanted_37 ⟨Nat.zero_le _, Nat.zero_le _⟩) hw (fun H locs hw => ?_)
              refine lv_if_eq (tgt := 45) hx hb d_M_nextWanted_40 (by decide) (fun c => ?_) (fun c => ?_)
              · have h := kb_ip c h
                refine lv_iinc (v := (u3 + 1)) (lv' := [(3, .int (u3 + 1)), (0, .ref (A 0)), (1, .int u1), (2, .int u2)]) hx hb d_M_nextWanted_45 hl (k := 3) rfl rfl (by decide) rfl (fun ls hl => ?_)
                refine lv_goto (tgt := 4) hx hb d_M_nextWanted_48 (by decide) ?_
                exact ih u1 u2 (u3 + 1) M5 _ _ _ h hw (lv_sub hl [1, 2, 3, 0] rfl)
              · have h := kb_in c h
                refine lv_iload_n hx hb d_M_nextWanted_43 rfl (lv_at hl 3 rfl) ?_
                refine lv_istore_n (lv' := [(2, .int u3), (0, .ref (A 0)), (1, .int u1), (3, .int u3)]) hx hb d_M_nextWanted_44 rfl hl (by decide) rfl (fun ls hl => ?_)
                refine lv_iinc (v := (u3 + 1)) (lv' := [(3, .int (u3 + 1)), (2, .int u3), (0, .ref (A 0)), (1, .int u1)]) hx hb d_M_nextWanted_45 hl (k := 3) rfl rfl (by decide) rfl (fun ls hl => ?_)
                refine lv_goto (tgt := 4) hx hb d_M_nextWanted_48 (by decide) ?_
                exact ih u1 u3 (u3 + 1) M5 _ _ _ h hw (lv_sub hl [2, 3, 1, 0] rfl)
  have hl := lv_entry ([.ref (A 0), .int x1]) (n := 4) (Nat.le_of_ble_eq_true rfl)
  rw [lg_entry_eq]
  generalize (lg_sl ([.ref (A 0), .int x1]) ++ List.replicate (4 - (lg_sl ([.ref (A 0), .int x1])).length) Slot.unset).toArray = ls at hl ⊢
  have hl : lv_has ls 4 [(0, .ref (A 0)), (1, .int x1)] := hl
  rw [f_M_nextWanted] at h
  refine lv_iconst (v := -1) hx hb d_M_nextWanted_0 (by decide) ?_
  refine lv_istore_n (lv' := [(2, .int (-1 : Int32)), (0, .ref (A 0)), (1, .int x1)]) hx hb d_M_nextWanted_1 rfl hl (by decide) rfl (fun ls hl => ?_)
  refine lv_iconst (v := 0) hx hb d_M_nextWanted_2 (by decide) ?_
  refine lv_istore_n (lv' := [(3, .int (0 : Int32)), (2, .int (-1 : Int32)), (0, .ref (A 0)), (1, .int x1)]) hx hb d_M_nextWanted_3 rfl hl (by decide) rfl (fun ls hl => ?_)
  exact loop_4 kb_F x1 (-1 : Int32) (0 : Int32) M0 _ _ _ h hw (lv_sub hl [2, 3, 1, 0] rfl)
def h_M_leaves_17 (k0 : Int32 → (Nat → Nat → Int32) → Option (Int32 × (Nat → Nat → Int32))) : Nat → Int32 → Int32 → Int32 → Int32 → (Nat → Nat → Int32) → Option (Int32 × (Nat → Nat → Int32))
  | 0, _, _, _, _, _ => none
  | n + 1, u1, u2, u3, u4, M => (if (M 0 1) ≤ u4 then (if (0 : Int32) ≤ u3 then kb_rd (M 6) 60 (((4 : Int32) * u1) + u3) (fun v3 => kb_wr M 6 60 (((4 : Int32) * u1) + u3) (v3 - (1 : Int32)) (fun M4 => kb_rd (M4 7) 15 u1 (fun v5 => kb_wr M4 7 15 u1 (v5 ||| ((1 : Int32) <<< (u2 &&& 31))) (fun M6 => kb_cl (f_M_says u1 u2 (-1 : Int32) M6) (fun r7 M8 => k0 u1 M8))))) else some ((0 : Int32), M)) else kb_cl (f_M_topOf u1 u4 M) (fun r9 M10 => (if r9 = u2 then h_M_leaves_17 k0 n u1 u2 u4 (u4 + 1) M10 else h_M_leaves_17 k0 n u1 u2 u3 (u4 + 1) M10)))
def h_M_leaves_0 : Nat → Int32 → (Nat → Nat → Int32) → Option (Int32 × (Nat → Nat → Int32))
  | 0, _, _ => none
  | n + 1, u1, M => kb_cl (f_M_nextWanted u1 M) (fun r1 M2 => (if (0 : Int32) ≤ r1 then h_M_leaves_17 (fun y0 N => h_M_leaves_0 n y0 N) kb_F u1 r1 (-1 : Int32) (0 : Int32) M2 else some ((1 : Int32), M2)))
def f_M_leaves (x1 : Int32) (M0 : Nat → Nat → Int32) : Option (Int32 × (Nat → Nat → Int32)) := h_M_leaves_0 kb_F x1 M0
set_option maxHeartbeats 4000000 in
set_option maxRecDepth 100000 in
theorem c_M_leaves (l : Launch) (D : va_G) (A : Nat → Nat) (G : Nat → ClassId) (x1 : Int32) (M0 : Nat → Nat → Int32) (r : Int32) (M' : Nat → Nat → Int32) (sz : Nat) (h : f_M_leaves x1 M0 = some (r, M')) : kb_Ci l y_M_leaves (Cond.code y_M_leaves b_M_leaves 5 (some .boolean) :: wsM) { frames := 2, cells := 0, slots := 0, locals := 45 } [.ref (A 0), .int x1] D kcl (tyM G) (wM A G M0) (wM A G M') nnM sz r := by
  refine Met.ofW (cc := b_M_leaves) (maxL := 5) (ret := (some .boolean)) (by decide) rfl ?_
  intro p e s m args below meth c s₁ B hml hv
  obtain ⟨rfl, hpre⟩ := hv
  obtain ⟨hw, hN⟩ := kb_enter hpre
  have hx := B.exec
  have hb := B.bytes
  have hr := B.returns
  have hts := atoms_spec (ws := (Cond.code y_M_leaves b_M_leaves 5 (some .boolean) :: wsM)) B.pre
  have htw : ∀ w ∈ wsM, w.before ([.ref (A 0), .int x1] : List Value).toArray s = true := fun w h => hts w (List.mem_cons_of_mem _ h)
  have hown : s.vm.findClass "PileLiftsModel" = some m.cls := findClass_of_methodNamed B.named
  have hlocks := B.notSynchronized
  have loop_0 : ∀ (n0 : Nat) (u1 : Int32) (M : Nat → Nat → Int32) (H : Heap) (locs : List Loc) (ls : Array Slot), h_M_leaves_0 n0 u1 M = some (r, M') → kb_K D kcl (tyM G) (wM A G M) s (va_A (wM A G M0) sz) H locs → lv_has ls 5 [(0, .ref (A 0)), (1, .int u1)] → W p l e (headSpec (Cond.code y_M_leaves b_M_leaves 5 (some .boolean) :: wsM) { frames := 2, cells := 0, slots := 0, locals := 45 }).room s m ([.ref (A 0), .int x1] : List Value).toArray below meth c H locs 0 0 (kb_Qi D kcl (tyM G) (wM A G M0) (wM A G M') sz r below ([.ref (A 0), .int x1] : List Value).toArray s) (F0 m 0 ls []) := by
    intro n0
    induction n0 with
    | zero =>
      intro u1 M H locs ls h
      cases h
    | succ n0 ih =>
      have ih0 := ih
      have loop_17 : ∀ (n17 : Nat) (u1 u2 u3 u4 : Int32) (M : Nat → Nat → Int32) (H : Heap) (locs : List Loc) (ls : Array Slot), h_M_leaves_17 (fun y0 N => h_M_leaves_0 n0 y0 N) n17 u1 u2 u3 u4 M = some (r, M') → kb_K D kcl (tyM G) (wM A G M) s (va_A (wM A G M0) sz) H locs → lv_has ls 5 [(0, .ref (A 0)), (1, .int u1), (2, .int u2), (3, .int u3), (4, .int u4)] → W p l e (headSpec (Cond.code y_M_leaves b_M_leaves 5 (some .boolean) :: wsM) { frames := 2, cells := 0, slots := 0, locals := 45 }).room s m ([.ref (A 0), .int x1] : List Value).toArray below meth c H locs 0 0 (kb_Qi D kcl (tyM G) (wM A G M0) (wM A G M') sz r below ([.ref (A 0), .int x1] : List Value).toArray s) (F0 m 17 ls []) := by
        intro n17
        induction n17 with
        | zero =>
          intro u1 u2 u3 u4 M H locs ls h
          cases h
        | succ n17 ih =>
          intro u1 u2 u3 u4 M H locs ls h hw hl
          rw [h_M_leaves_17] at h
          refine lv_iload hx hb d_M_leaves_17 (lv_at hl 4 rfl) ?_
          refine lv_aload_n hx hb d_M_leaves_19 rfl (lv_at hl 0 rfl) ?_
          refine kb_get (own := "PileLiftsModel") (ref := "PileLiftsModel") (C := R_M) (T := F_M) (N := 22) hx hb htw i_M hown hw 0 (wM_0 A G _) rfl 1 (by decide) (htw _ mM_6) rfl rfl d_M_leaves_20 ?_
          refine lv_icmp_ge (tgt := 46) hx hb d_M_leaves_23 (by decide) (fun c => ?_) (fun c => ?_)
          · have h := kb_ip c h
            refine lv_iload_n hx hb d_M_leaves_46 rfl (lv_at hl 3 rfl) ?_
            refine lv_if_ge (tgt := 52) hx hb d_M_leaves_47 (by decide) (fun c => ?_) (fun c => ?_)
            · have h := kb_ip c h
              refine lv_aload_n hx hb d_M_leaves_52 rfl (lv_at hl 0 rfl) ?_
              refine kb_get (own := "PileLiftsModel") (ref := "PileLiftsModel") (C := R_M) (T := F_M) (N := 22) hx hb htw i_M hown hw 0 (wM_0 A G _) rfl 9 (by decide) (htw _ mM_14) rfl rfl d_M_leaves_53 ?_
              refine lv_iconst (v := 4) hx hb d_M_leaves_56 (by decide) ?_
              refine lv_iload_n hx hb d_M_leaves_57 rfl (lv_at hl 1 rfl) ?_
              refine lv_imul hx hb d_M_leaves_58 ?_
              refine lv_iload_n hx hb d_M_leaves_59 rfl (lv_at hl 3 rfl) ?_
              refine lv_iadd hx hb d_M_leaves_60 ?_
              refine lv_dup2_11 hx hb d_M_leaves_61 rfl rfl ?_
              obtain ⟨v3, ev3, hi, h⟩ := kb_rd_some h
              refine kb_ald hx hb hw 6 5 rfl rfl hi ev3 d_M_leaves_62 ?_
              refine lv_iconst (v := 1) hx hb d_M_leaves_63 (by decide) ?_
              refine lv_isub hx hb d_M_leaves_64 ?_
              obtain ⟨M4, eM4, hi, h⟩ := kb_wr_some h
              refine kb_ast (ws' := (wM A G M4)) hx hb hw 6 5 rfl rfl hi d_M_leaves_65 (by rw [eM4]; rfl) (fun H locs hw => ?_)
              refine lv_aload_n hx hb d_M_leaves_66 rfl (lv_at hl 0 rfl) ?_
              refine kb_get (own := "PileLiftsModel") (ref := "PileLiftsModel") (C := R_M) (T := F_M) (N := 22) hx hb htw i_M hown hw 0 (wM_0 A G _) rfl 10 (by decide) (htw _ mM_15) rfl rfl d_M_leaves_67 ?_
              refine lv_iload_n hx hb d_M_leaves_70 rfl (lv_at hl 1 rfl) ?_
              refine lv_aload_n hx hb d_M_leaves_71 rfl (lv_at hl 0 rfl) ?_
              refine kb_get (own := "PileLiftsModel") (ref := "PileLiftsModel") (C := R_M) (T := F_M) (N := 22) hx hb htw i_M hown hw 0 (wM_0 A G _) rfl 10 (by decide) (htw _ mM_15) rfl rfl d_M_leaves_72 ?_
              refine lv_iload_n hx hb d_M_leaves_75 rfl (lv_at hl 1 rfl) ?_
              obtain ⟨v5, ev5, hi, h⟩ := kb_rd_some h
              refine kb_ald hx hb hw 7 6 rfl rfl hi ev5 d_M_leaves_76 ?_
              refine lv_iconst (v := 1) hx hb d_M_leaves_77 (by decide) ?_
              refine lv_iload_n hx hb d_M_leaves_78 rfl (lv_at hl 2 rfl) ?_
              refine lv_ishl hx hb d_M_leaves_79 ?_
              refine lv_ior hx hb d_M_leaves_80 ?_
              obtain ⟨M6, eM6, hi, h⟩ := kb_wr_some h
              refine kb_ast (ws' := (wM A G M6)) hx hb hw 7 6 rfl rfl hi d_M_leaves_81 (by rw [eM6]; rfl) (fun H locs hw => ?_)
              refine lv_aload_n hx hb d_M_leaves_82 rfl (lv_at hl 0 rfl) ?_
              refine lv_iload_n hx hb d_M_leaves_83 rfl (lv_at hl 1 rfl) ?_
              refine lv_iload_n hx hb d_M_leaves_84 rfl (lv_at hl 2 rfl) ?_
              refine lv_iconst (v := -1) hx hb d_M_leaves_85 (by decide) ?_
              obtain ⟨r7, M8, hc, h⟩ := kb_cl_some h
              refine kb_callv0 (va_runV (As := [.int u1, .int u2, .int (-1 : Int32)]) (rest := []) ⟨hx, hb, hml, hown, htw⟩ (c_M_says l D A G u1 u2 (-1 : Int32) M6 _ _ H.size hc) ⟨(callB_of 3 htw (wsM_self mM_118) rfl rfl rfl (htw _ mM_0) (htw _ mM_116) q_M_says ⟨by show 0 + 1 ≤ 2; omega, by show 8 + (4 + 11) + 0 ≤ 45; omega⟩), htw _ mM_117, htw _ mM_162⟩ (kb_preV nnM_warm nnM_same hw hN 0 (wM_0 A G _) rfl) rfl rfl hl.1 rfl (lv_room (Nat.le_of_ble_eq_true rfl)) d_M_leaves_86 ⟨Nat.zero_le _, Nat.zero_le _⟩) hw (fun H locs hw => ?_)
              refine lv_goto (tgt := 0) hx hb d_M_leaves_89 (by decide) ?_
              exact ih0 u1 M8 _ _ _ h hw (lv_sub hl [0, 1] rfl)
            · have h := kb_in c h
              refine lv_iconst (v := 0) hx hb d_M_leaves_50 (by decide) ?_
              obtain ⟨rfl, rfl⟩ := kb_rt h
              exact kb_zret hx hb hr hw hlocks (Or.inl rfl) d_M_leaves_51
          · have h := kb_in c h
            refine lv_aload_n hx hb d_M_leaves_26 rfl (lv_at hl 0 rfl) ?_
            refine lv_iload_n hx hb d_M_leaves_27 rfl (lv_at hl 1 rfl) ?_
            refine lv_iload hx hb d_M_leaves_28 (lv_at hl 4 rfl) ?_
            obtain ⟨r9, M10, hc, h⟩ := kb_cl_some h
            refine kb_calli0 (va_runV (As := [.int u1, .int u4]) (rest := []) ⟨hx, hb, hml, hown, htw⟩ (c_M_topOf l D A G u1 u4 M _ _ H.size hc) ⟨(callB_of 2 htw (wsM_self mM_115) rfl rfl rfl (htw _ mM_0) (htw _ mM_113) q_M_topOf ⟨by show 1 + 1 ≤ 2; omega, by show 8 + (3 + 11) + 22 ≤ 45; omega⟩), htw _ mM_114, htw _ mM_161⟩ (kb_preV nnM_warm nnM_same hw hN 0 (wM_0 A G _) rfl) rfl rfl hl.1 rfl (lv_room (Nat.le_of_ble_eq_true rfl)) d_M_leaves_30 ⟨Nat.zero_le _, Nat.zero_le _⟩) hw (fun H locs hw => ?_)
            refine lv_iload_n hx hb d_M_leaves_33 rfl (lv_at hl 2 rfl) ?_
            refine lv_icmp_ne (tgt := 40) hx hb d_M_leaves_34 (by decide) (fun c => ?_) (fun c => ?_)
            · have h := kb_in c h
              refine lv_iinc (v := (u4 + 1)) (lv' := [(4, .int (u4 + 1)), (0, .ref (A 0)), (1, .int u1), (2, .int u2), (3, .int u3)]) hx hb d_M_leaves_40 hl (k := 4) rfl rfl (by decide) rfl (fun ls hl => ?_)
              refine lv_goto (tgt := 17) hx hb d_M_leaves_43 (by decide) ?_
              exact ih u1 u2 u3 (u4 + 1) M10 _ _ _ h hw (lv_sub hl [1, 2, 3, 4, 0] rfl)
            · have h := kb_ip c h
              refine lv_iload hx hb d_M_leaves_37 (lv_at hl 4 rfl) ?_
              refine lv_istore_n (lv' := [(3, .int u4), (0, .ref (A 0)), (1, .int u1), (2, .int u2), (4, .int u4)]) hx hb d_M_leaves_39 rfl hl (by decide) rfl (fun ls hl => ?_)
              refine lv_iinc (v := (u4 + 1)) (lv' := [(4, .int (u4 + 1)), (3, .int u4), (0, .ref (A 0)), (1, .int u1), (2, .int u2)]) hx hb d_M_leaves_40 hl (k := 4) rfl rfl (by decide) rfl (fun ls hl => ?_)
              refine lv_goto (tgt := 17) hx hb d_M_leaves_43 (by decide) ?_
              exact ih u1 u2 u4 (u4 + 1) M10 _ _ _ h hw (lv_sub hl [2, 3, 4, 1, 0] rfl)
      intro u1 M H locs ls h hw hl
      rw [h_M_leaves_0] at h
      refine lv_aload_n hx hb d_M_leaves_0 rfl (lv_at hl 0 rfl) ?_
      refine lv_iload_n hx hb d_M_leaves_1 rfl (lv_at hl 1 rfl) ?_
      obtain ⟨r1, M2, hc, h⟩ := kb_cl_some h
      refine kb_calli0 (va_runV (As := [.int u1]) (rest := []) ⟨hx, hb, hml, hown, htw⟩ (c_M_nextWanted l D A G u1 M _ _ H.size hc) ⟨(callB_of 1 htw (wsM_self mM_112) rfl rfl rfl (htw _ mM_0) (htw _ mM_110) q_M_nextWanted ⟨by show 1 + 1 ≤ 2; omega, by show 8 + (4 + 11) + 22 ≤ 45; omega⟩), htw _ mM_111, htw _ mM_160⟩ (kb_preV nnM_warm nnM_same hw hN 0 (wM_0 A G _) rfl) rfl rfl hl.1 rfl (lv_room (Nat.le_of_ble_eq_true rfl)) d_M_leaves_2 ⟨Nat.zero_le _, Nat.zero_le _⟩) hw (fun H locs hw => ?_)
      refine lv_istore_n (lv' := [(2, .int r1), (0, .ref (A 0)), (1, .int u1)]) hx hb d_M_leaves_5 rfl hl (by decide) rfl (fun ls hl => ?_)
      refine lv_iload_n hx hb d_M_leaves_6 rfl (lv_at hl 0 rfl) ?_
      refine lv_if_ge (tgt := 12) hx hb d_M_leaves_7 (by decide) (fun c => ?_) (fun c => ?_)
      · have h := kb_ip c h
        refine lv_iconst (v := -1) hx hb d_M_leaves_12 (by decide) ?_
        refine lv_istore_n (lv' := [(3, .int (-1 : Int32)), (2, .int r1), (0, .ref (A 0)), (1, .int u1)]) hx hb d_M_leaves_13 rfl hl (by decide) rfl (fun ls hl => ?_)
        refine lv_iconst (v := 0) hx hb d_M_leaves_14 (by decide) ?_
        refine lv_istore (lv' := [(4, .int (0 : Int32)), (3, .int (-1 : Int32)), (2, .int r1), (0, .ref (A 0)), (1, .int u1)]) hx hb d_M_leaves_15 hl (by decide) rfl (fun ls hl => ?_)
        exact loop_17 kb_F u1 r1 (-1 : Int32) (0 : Int32) M2 _ _ _ h hw (lv_sub hl [3, 4, 2, 1, 0] rfl)
      · have h := kb_in c h
        refine lv_iconst (v := 1) hx hb d_M_leaves_10 (by decide) ?_
        obtain ⟨rfl, rfl⟩ := kb_rt h
        exact kb_zret hx hb hr hw hlocks (Or.inr rfl) d_M_leaves_11
  have hl := lv_entry ([.ref (A 0), .int x1]) (n := 5) (Nat.le_of_ble_eq_true rfl)
  rw [lg_entry_eq]
  generalize (lg_sl ([.ref (A 0), .int x1]) ++ List.replicate (5 - (lg_sl ([.ref (A 0), .int x1])).length) Slot.unset).toArray = ls at hl ⊢
  have hl : lv_has ls 5 [(0, .ref (A 0)), (1, .int x1)] := hl
  rw [f_M_leaves] at h
  exact loop_0 kb_F x1 M0 _ _ _ h hw (lv_sub hl [0, 1] rfl)
def h_M_round_153 (k50 : Int32 → Int32 → Int32 → (Nat → Nat → Int32) → Option (Int32 × (Nat → Nat → Int32))) (u1 u3 u4 : Int32) (M : Nat → Nat → Int32) : Option (Int32 × (Nat → Nat → Int32)) := kb_rd (M 8) 15 u4 (fun v10 => kb_wr M 8 15 u4 (v10 + (1 : Int32)) (fun M11 => k50 u1 u3 u4 M11))
def h_M_round_50 : Nat → Int32 → Int32 → Int32 → (Nat → Nat → Int32) → Option (Int32 × (Nat → Nat → Int32))
  | 0, _, _, _, _ => none
  | n + 1, u1, u3, u4, M => (if u4 ≤ (0 : Int32) then some (u3, M) else kb_rd (M 8) 15 u4 (fun v7 => (if v7 = ((M 0 1) * (M 0 1)) then kb_rd (M 8) 15 (u4 + (-1)) (fun v31 => kb_wr M 8 15 (u4 + (-1)) (v31 + (1 : Int32)) (fun M32 => h_M_round_50 n u1 u3 (u4 + (-1)) M32)) else kb_nd (M 0 1) (kb_nd (M 0 1) (kb_cl (f_M_topOf u4 (v7 / (M 0 1)) M) (fun r8 M9 => (if (v7 / (M 0 1)) = (v7 - v7 / (M 0 1) * (M 0 1)) then h_M_round_153 (fun y0 y1 y2 N => h_M_round_50 n y0 y1 y2 N) u1 u3 u4 M9 else (if r8 < (0 : Int32) then h_M_round_153 (fun y0 y1 y2 N => h_M_round_50 n y0 y1 y2 N) u1 u3 u4 M9 else kb_rd (M9 2) 10 r8 (fun v12 => kb_cl (f_M_takes u4 (v7 - v7 / (M 0 1) * (M 0 1)) v12 M9) (fun r13 M14 => (if r13 = (0 : Int32) then h_M_round_153 (fun y0 y1 y2 N => h_M_round_50 n y0 y1 y2 N) u1 u3 u4 M14 else (if u3 = (0 : Int32) then some ((-1 : Int32), M14) else kb_cl (f_M_copy u4 (u4 + (1 : Int32)) M14) (fun r15 M16 => kb_cl (f_M_lift (u4 + (1 : Int32)) (v7 / (M 0 1)) (v7 - v7 / (M 0 1) * (M 0 1)) M16) (fun r17 M18 => kb_cl (f_M_says (u4 + (1 : Int32)) r8 (v7 - v7 / (M 0 1) * (M 0 1)) M18) (fun r19 M20 => kb_cl (f_M_leaves (u4 + (1 : Int32)) M20) (fun r21 M22 => (if r21 = (0 : Int32) then kb_cl (f_M_boundAt (u4 + (1 : Int32)) M22) (fun r23 M24 => (if (u4 + r23) ≤ u1 then kb_wr M24 8 15 (u4 + 1) (0 : Int32) (fun M25 => h_M_round_50 n u1 (u3 + (-1)) (u4 + 1) M25) else kb_rd (M24 8) 15 u4 (fun v26 => kb_wr M24 8 15 u4 (v26 + (1 : Int32)) (fun M27 => h_M_round_50 n u1 (u3 + (-1)) u4 M27)))) else kb_st (kb_up M22 0 (upd (M22 0) 17 (1 : Int32))) (fun M28 => kb_rd (M28 11) 15 (u4 + (1 : Int32)) (fun v29 => kb_st (kb_up M28 0 (upd (M28 0) 18 v29)) (fun M30 => some ((u3 + (-1)), M30)))))))))))))))))))))
def f_M_round (x1 x2 : Int32) (M0 : Nat → Nat → Int32) : Option (Int32 × (Nat → Nat → Int32)) := kb_cl (f_M_copy (0 : Int32) (1 : Int32) M0) (fun r1 M2 => kb_wr M2 11 15 (1 : Int32) (0 : Int32) (fun M3 => kb_cl (f_M_leaves (1 : Int32) M3) (fun r4 M5 => (if r4 = (0 : Int32) then kb_wr M5 8 15 (1 : Int32) (0 : Int32) (fun M6 => h_M_round_50 kb_F x1 x2 (1 : Int32) M6) else kb_st (kb_up M5 0 (upd (M5 0) 17 (1 : Int32))) (fun M33 => kb_rd (M33 11) 15 (1 : Int32) (fun v34 => kb_st (kb_up M33 0 (upd (M33 0) 18 v34)) (fun M35 => some (x2, M35))))))))
set_option maxHeartbeats 4000000 in
set_option maxRecDepth 100000 in
theorem c_M_round (l : Launch) (D : va_G) (A : Nat → Nat) (G : Nat → ClassId) (x1 x2 : Int32) (M0 : Nat → Nat → Int32) (r : Int32) (M' : Nat → Nat → Int32) (sz : Nat) (h : f_M_round x1 x2 M0 = some (r, M')) : kb_Ci l y_M_round (Cond.code y_M_round b_M_round 9 (some .int) :: wsM) { frames := 3, cells := 0, slots := 0, locals := 71 } [.ref (A 0), .int x1, .int x2] D kcl (tyM G) (wM A G M0) (wM A G M') nnM sz r := by
  refine Met.ofW (cc := b_M_round) (maxL := 9) (ret := (some .int)) (by decide) rfl ?_
  intro p e s m args below meth c s₁ B hml hv
  obtain ⟨rfl, hpre⟩ := hv
  obtain ⟨hw, hN⟩ := kb_enter hpre
  have hx := B.exec
  have hb := B.bytes
  have hr := B.returns
  have hts := atoms_spec (ws := (Cond.code y_M_round b_M_round 9 (some .int) :: wsM)) B.pre
  have htw : ∀ w ∈ wsM, w.before ([.ref (A 0), .int x1, .int x2] : List Value).toArray s = true := fun w h => hts w (List.mem_cons_of_mem _ h)
  have hown : s.vm.findClass "PileLiftsModel" = some m.cls := findClass_of_methodNamed B.named
  have hlocks := B.notSynchronized
  have loop_50 : ∀ (n50 : Nat) (u1 u3 u4 : Int32) (M : Nat → Nat → Int32) (H : Heap) (locs : List Loc) (ls : Array Slot), h_M_round_50 n50 u1 u3 u4 M = some (r, M') → kb_K D kcl (tyM G) (wM A G M) s (va_A (wM A G M0) sz) H locs → lv_has ls 9 [(0, .ref (A 0)), (1, .int u1), (3, .int u3), (4, .int u4)] → W p l e (headSpec (Cond.code y_M_round b_M_round 9 (some .int) :: wsM) { frames := 3, cells := 0, slots := 0, locals := 71 }).room s m ([.ref (A 0), .int x1, .int x2] : List Value).toArray below meth c H locs 0 0 (kb_Qi D kcl (tyM G) (wM A G M0) (wM A G M') sz r below ([.ref (A 0), .int x1, .int x2] : List Value).toArray s) (F0 m 50 ls []) := by
    intro n50
    induction n50 with
    | zero =>
      intro u1 u3 u4 M H locs ls h
      cases h
    | succ n50 ih =>
      have ih50 := ih
      have loop_153 : ∀ (u1 u3 u4 : Int32) (M : Nat → Nat → Int32) (H : Heap) (locs : List Loc) (ls : Array Slot), h_M_round_153 (fun y0 y1 y2 N => h_M_round_50 n50 y0 y1 y2 N) u1 u3 u4 M = some (r, M') → kb_K D kcl (tyM G) (wM A G M) s (va_A (wM A G M0) sz) H locs → lv_has ls 9 [(0, .ref (A 0)), (1, .int u1), (3, .int u3), (4, .int u4)] → W p l e (headSpec (Cond.code y_M_round b_M_round 9 (some .int) :: wsM) { frames := 3, cells := 0, slots := 0, locals := 71 }).room s m ([.ref (A 0), .int x1, .int x2] : List Value).toArray below meth c H locs 0 0 (kb_Qi D kcl (tyM G) (wM A G M0) (wM A G M') sz r below ([.ref (A 0), .int x1, .int x2] : List Value).toArray s) (F0 m 153 ls []) := by
        intro u1 u3 u4 M H locs ls h hw hl
        rw [h_M_round_153] at h
        refine lv_aload_n hx hb d_M_round_153 rfl (lv_at hl 0 rfl) ?_
        refine kb_get (own := "PileLiftsModel") (ref := "PileLiftsModel") (C := R_M) (T := F_M) (N := 22) hx hb htw i_M hown hw 0 (wM_0 A G _) rfl 11 (by decide) (htw _ mM_16) rfl rfl d_M_round_154 ?_
        refine lv_iload hx hb d_M_round_157 (lv_at hl 3 rfl) ?_
        refine lv_dup2_11 hx hb d_M_round_159 rfl rfl ?_
        obtain ⟨v10, ev10, hi, h⟩ := kb_rd_some h
        refine kb_ald hx hb hw 8 7 rfl rfl hi ev10 d_M_round_160 ?_
        refine lv_iconst (v := 1) hx hb d_M_round_161 (by decide) ?_
        refine lv_iadd hx hb d_M_round_162 ?_
        obtain ⟨M11, eM11, hi, h⟩ := kb_wr_some h
        refine kb_ast (ws' := (wM A G M11)) hx hb hw 8 7 rfl rfl hi d_M_round_163 (by rw [eM11]; rfl) (fun H locs hw => ?_)
        refine lv_goto (tgt := 50) hx hb d_M_round_164 (by decide) ?_
        exact ih50 u1 u3 u4 M11 _ _ _ h hw (lv_sub hl [0, 1, 2, 3] rfl)
      intro u1 u3 u4 M H locs ls h hw hl
      rw [h_M_round_50] at h
      refine lv_iload hx hb d_M_round_50 (lv_at hl 3 rfl) ?_
      refine lv_if_le (tgt := 284) hx hb d_M_round_52 (by decide) (fun c => ?_) (fun c => ?_)
      · have h := kb_ip c h
        refine lv_iload_n hx hb d_M_round_284 rfl (lv_at hl 2 rfl) ?_
        obtain ⟨rfl, rfl⟩ := kb_rt h
        exact kb_iret hx hb hr hw hlocks d_M_round_285
      · have h := kb_in c h
        refine lv_aload_n hx hb d_M_round_55 rfl (lv_at hl 0 rfl) ?_
        refine kb_get (own := "PileLiftsModel") (ref := "PileLiftsModel") (C := R_M) (T := F_M) (N := 22) hx hb htw i_M hown hw 0 (wM_0 A G _) rfl 11 (by decide) (htw _ mM_16) rfl rfl d_M_round_56 ?_
        refine lv_iload hx hb d_M_round_59 (lv_at hl 3 rfl) ?_
        obtain ⟨v7, ev7, hi, h⟩ := kb_rd_some h
        refine kb_ald hx hb hw 8 7 rfl rfl hi ev7 d_M_round_61 ?_
        refine lv_istore (lv' := [(5, .int v7), (0, .ref (A 0)), (1, .int u1), (3, .int u3), (4, .int u4)]) hx hb d_M_round_62 hl (by decide) rfl (fun ls hl => ?_)
        refine lv_iload hx hb d_M_round_64 (lv_at hl 0 rfl) ?_
        refine lv_aload_n hx hb d_M_round_66 rfl (lv_at hl 1 rfl) ?_
        refine kb_get (own := "PileLiftsModel") (ref := "PileLiftsModel") (C := R_M) (T := F_M) (N := 22) hx hb htw i_M hown hw 0 (wM_0 A G _) rfl 1 (by decide) (htw _ mM_6) rfl rfl d_M_round_67 ?_
        refine lv_aload_n hx hb d_M_round_70 rfl (lv_at hl 1 rfl) ?_
        refine kb_get (own := "PileLiftsModel") (ref := "PileLiftsModel") (C := R_M) (T := F_M) (N := 22) hx hb htw i_M hown hw 0 (wM_0 A G _) rfl 1 (by decide) (htw _ mM_6) rfl rfl d_M_round_71 ?_
        refine lv_imul hx hb d_M_round_74 ?_
        refine lv_icmp_ne (tgt := 95) hx hb d_M_round_75 (by decide) (fun c => ?_) (fun c => ?_)
        · have h := kb_in c h
          refine lv_iload hx hb d_M_round_95 (lv_at hl 0 rfl) ?_
          refine lv_aload_n hx hb d_M_round_97 rfl (lv_at hl 1 rfl) ?_
          refine kb_get (own := "PileLiftsModel") (ref := "PileLiftsModel") (C := R_M) (T := F_M) (N := 22) hx hb htw i_M hown hw 0 (wM_0 A G _) rfl 1 (by decide) (htw _ mM_6) rfl rfl d_M_round_98 ?_
          obtain ⟨hd, h⟩ := kb_nd_some h
          refine lv_idiv hx hb d_M_round_101 hd ?_
          refine lv_istore (lv' := [(6, .int (v7 / (M 0 1))), (5, .int v7), (0, .ref (A 0)), (1, .int u1), (3, .int u3), (4, .int u4)]) hx hb d_M_round_102 hl (by decide) rfl (fun ls hl => ?_)
          refine lv_iload hx hb d_M_round_104 (lv_at hl 1 rfl) ?_
          refine lv_aload_n hx hb d_M_round_106 rfl (lv_at hl 2 rfl) ?_
          refine kb_get (own := "PileLiftsModel") (ref := "PileLiftsModel") (C := R_M) (T := F_M) (N := 22) hx hb htw i_M hown hw 0 (wM_0 A G _) rfl 1 (by decide) (htw _ mM_6) rfl rfl d_M_round_107 ?_
          obtain ⟨hd, h⟩ := kb_nd_some h
          refine lv_irem hx hb d_M_round_110 hd ?_
          refine lv_istore (lv' := [(7, .int (v7 - v7 / (M 0 1) * (M 0 1))), (6, .int (v7 / (M 0 1))), (5, .int v7), (0, .ref (A 0)), (1, .int u1), (3, .int u3), (4, .int u4)]) hx hb d_M_round_111 hl (by decide) rfl (fun ls hl => ?_)
          refine lv_aload_n hx hb d_M_round_113 rfl (lv_at hl 3 rfl) ?_
          refine lv_iload hx hb d_M_round_114 (lv_at hl 6 rfl) ?_
          refine lv_iload hx hb d_M_round_116 (lv_at hl 1 rfl) ?_
          obtain ⟨r8, M9, hc, h⟩ := kb_cl_some h
          refine kb_calli0 (va_runV (As := [.int u4, .int (v7 / (M 0 1))]) (rest := []) ⟨hx, hb, hml, hown, htw⟩ (c_M_topOf l D A G u4 (v7 / (M 0 1)) M _ _ H.size hc) ⟨(callB_of 2 htw (wsM_self mM_115) rfl rfl rfl (htw _ mM_0) (htw _ mM_113) q_M_topOf ⟨by show 1 + 1 ≤ 3; omega, by show 8 + (3 + 11) + 22 ≤ 71; omega⟩), htw _ mM_114, htw _ mM_161⟩ (kb_preV nnM_warm nnM_same hw hN 0 (wM_0 A G _) rfl) rfl rfl hl.1 rfl (lv_room (Nat.le_of_ble_eq_true rfl)) d_M_round_118 ⟨Nat.zero_le _, Nat.zero_le _⟩) hw (fun H locs hw => ?_)
          refine lv_istore (lv' := [(8, .int r8), (7, .int (v7 - v7 / (M 0 1) * (M 0 1))), (6, .int (v7 / (M 0 1))), (5, .int v7), (0, .ref (A 0)), (1, .int u1), (3, .int u3), (4, .int u4)]) hx hb d_M_round_121 hl (by decide) rfl (fun ls hl => ?_)
          refine lv_iload hx hb d_M_round_123 (lv_at hl 2 rfl) ?_
          refine lv_iload hx hb d_M_round_125 (lv_at hl 1 rfl) ?_
          refine lv_icmp_eq (tgt := 153) hx hb d_M_round_127 (by decide) (fun c => ?_) (fun c => ?_)
          · have h := kb_ip c h
            exact loop_153 u1 u3 u4 M9 _ _ _ h hw (lv_sub hl [4, 5, 6, 7] rfl)
          · have h := kb_in c h
            refine lv_iload hx hb d_M_round_130 (lv_at hl 0 rfl) ?_
            refine lv_if_lt (tgt := 153) hx hb d_M_round_132 (by decide) (fun c => ?_) (fun c => ?_)
            · have h := kb_ip c h
              exact loop_153 u1 u3 u4 M9 _ _ _ h hw (lv_sub hl [4, 5, 6, 7] rfl)
            · have h := kb_in c h
              refine lv_aload_n hx hb d_M_round_135 rfl (lv_at hl 4 rfl) ?_
              refine lv_iload hx hb d_M_round_136 (lv_at hl 7 rfl) ?_
              refine lv_iload hx hb d_M_round_138 (lv_at hl 1 rfl) ?_
              refine lv_aload_n hx hb d_M_round_140 rfl (lv_at hl 4 rfl) ?_
              refine kb_get (own := "PileLiftsModel") (ref := "PileLiftsModel") (C := R_M) (T := F_M) (N := 22) hx hb htw i_M hown hw 0 (wM_0 A G _) rfl 5 (by decide) (htw _ mM_10) rfl rfl d_M_round_141 ?_
              refine lv_iload hx hb d_M_round_144 (lv_at hl 0 rfl) ?_
              obtain ⟨v12, ev12, hi, h⟩ := kb_rd_some h
              refine kb_ald hx hb hw 2 1 rfl rfl hi ev12 d_M_round_146 ?_
              obtain ⟨r13, M14, hc, h⟩ := kb_cl_some h
              refine kb_calli0 (va_runV (As := [.int u4, .int (v7 - v7 / (M 0 1) * (M 0 1)), .int v12]) (rest := []) ⟨hx, hb, hml, hown, htw⟩ (c_M_takes l D A G u4 (v7 - v7 / (M 0 1) * (M 0 1)) v12 M9 _ _ H.size hc) ⟨(callB_of 3 htw (wsM_self mM_69) rfl rfl rfl (htw _ mM_0) (htw _ mM_67) q_M_takes ⟨by show 1 + 1 ≤ 3; omega, by show 8 + (5 + 11) + 22 ≤ 71; omega⟩), htw _ mM_68, htw _ mM_151⟩ (kb_preV nnM_warm nnM_same hw hN 0 (wM_0 A G _) rfl) rfl rfl hl.1 rfl (lv_room (Nat.le_of_ble_eq_true rfl)) d_M_round_147 ⟨Nat.zero_le _, Nat.zero_le _⟩) hw (fun H locs hw => ?_)
              refine lv_if_ne (tgt := 167) hx hb d_M_round_150 (by decide) (fun c => ?_) (fun c => ?_)
              · have h := kb_in c h
                refine lv_iload_n hx hb d_M_round_167 rfl (lv_at hl 6 rfl) ?_
                refine lv_if_ne (tgt := 173) hx hb d_M_round_168 (by decide) (fun c => ?_) (fun c => ?_)
                · have h := kb_in c h
                  refine lv_iinc (v := (u3 + (-1))) (lv' := [(3, .int (u3 + (-1))), (8, .int r8), (7, .int (v7 - v7 / (M 0 1) * (M 0 1))), (6, .int (v7 / (M 0 1))), (5, .int v7), (0, .ref (A 0)), (1, .int u1), (4, .int u4)]) hx hb d_M_round_173 hl (k := 6) rfl rfl (by decide) rfl (fun ls hl => ?_)
                  refine lv_aload_n hx hb d_M_round_176 rfl (lv_at hl 5 rfl) ?_
                  refine lv_iload hx hb d_M_round_177 (lv_at hl 7 rfl) ?_
                  refine lv_iload hx hb d_M_round_179 (lv_at hl 7 rfl) ?_
                  refine lv_iconst (v := 1) hx hb d_M_round_181 (by decide) ?_
                  refine lv_iadd hx hb d_M_round_182 ?_
                  obtain ⟨r15, M16, hc, h⟩ := kb_cl_some h
                  refine kb_callv0 (va_runV (As := [.int u4, .int (u4 + (1 : Int32))]) (rest := []) ⟨hx, hb, hml, hown, htw⟩ (c_M_copy l D A G u4 (u4 + (1 : Int32)) M14 _ _ H.size hc) ⟨(callB_of 2 htw (wsM_self mM_106) rfl rfl rfl (htw _ mM_0) (htw _ mM_104) q_M_copy ⟨by show 0 + 1 ≤ 3; omega, by show 8 + (4 + 11) + 0 ≤ 71; omega⟩), htw _ mM_105, htw _ mM_158⟩ (kb_preV nnM_warm nnM_same hw hN 0 (wM_0 A G _) rfl) rfl rfl hl.1 rfl (lv_room (Nat.le_of_ble_eq_true rfl)) d_M_round_183 ⟨Nat.zero_le _, Nat.zero_le _⟩) hw (fun H locs hw => ?_)
                  refine lv_aload_n hx hb d_M_round_186 rfl (lv_at hl 5 rfl) ?_
                  refine lv_iload hx hb d_M_round_187 (lv_at hl 7 rfl) ?_
                  refine lv_iconst (v := 1) hx hb d_M_round_189 (by decide) ?_
                  refine lv_iadd hx hb d_M_round_190 ?_
                  refine lv_iload hx hb d_M_round_191 (lv_at hl 3 rfl) ?_
                  refine lv_iload hx hb d_M_round_193 (lv_at hl 2 rfl) ?_
                  obtain ⟨r17, M18, hc, h⟩ := kb_cl_some h
                  refine kb_callv0 (va_runV (As := [.int (u4 + (1 : Int32)), .int (v7 / (M 0 1)), .int (v7 - v7 / (M 0 1) * (M 0 1))]) (rest := []) ⟨hx, hb, hml, hown, htw⟩ (c_M_lift l D A G (u4 + (1 : Int32)) (v7 / (M 0 1)) (v7 - v7 / (M 0 1) * (M 0 1)) M16 _ _ H.size hc) ⟨(callB_of 3 htw (wsM_self mM_121) rfl rfl rfl (htw _ mM_0) (htw _ mM_119) q_M_lift ⟨by show 2 + 1 ≤ 3; omega, by show 8 + (5 + 11) + 44 ≤ 71; omega⟩), htw _ mM_120, htw _ mM_163⟩ (kb_preV nnM_warm nnM_same hw hN 0 (wM_0 A G _) rfl) rfl rfl hl.1 rfl (lv_room (Nat.le_of_ble_eq_true rfl)) d_M_round_195 ⟨Nat.zero_le _, Nat.zero_le _⟩) hw (fun H locs hw => ?_)
                  refine lv_aload_n hx hb d_M_round_198 rfl (lv_at hl 5 rfl) ?_
                  refine lv_iload hx hb d_M_round_199 (lv_at hl 7 rfl) ?_
                  refine lv_iconst (v := 1) hx hb d_M_round_201 (by decide) ?_
                  refine lv_iadd hx hb d_M_round_202 ?_
                  refine lv_iload hx hb d_M_round_203 (lv_at hl 1 rfl) ?_
                  refine lv_iload hx hb d_M_round_205 (lv_at hl 2 rfl) ?_
                  obtain ⟨r19, M20, hc, h⟩ := kb_cl_some h
                  refine kb_callv0 (va_runV (As := [.int (u4 + (1 : Int32)), .int r8, .int (v7 - v7 / (M 0 1) * (M 0 1))]) (rest := []) ⟨hx, hb, hml, hown, htw⟩ (c_M_says l D A G (u4 + (1 : Int32)) r8 (v7 - v7 / (M 0 1) * (M 0 1)) M18 _ _ H.size hc) ⟨(callB_of 3 htw (wsM_self mM_118) rfl rfl rfl (htw _ mM_0) (htw _ mM_116) q_M_says ⟨by show 0 + 1 ≤ 3; omega, by show 8 + (4 + 11) + 0 ≤ 71; omega⟩), htw _ mM_117, htw _ mM_162⟩ (kb_preV nnM_warm nnM_same hw hN 0 (wM_0 A G _) rfl) rfl rfl hl.1 rfl (lv_room (Nat.le_of_ble_eq_true rfl)) d_M_round_207 ⟨Nat.zero_le _, Nat.zero_le _⟩) hw (fun H locs hw => ?_)
                  refine lv_aload_n hx hb d_M_round_210 rfl (lv_at hl 5 rfl) ?_
                  refine lv_iload hx hb d_M_round_211 (lv_at hl 7 rfl) ?_
                  refine lv_iconst (v := 1) hx hb d_M_round_213 (by decide) ?_
                  refine lv_iadd hx hb d_M_round_214 ?_
                  obtain ⟨r21, M22, hc, h⟩ := kb_cl_some h
                  refine kb_calli0 (va_runV (As := [.int (u4 + (1 : Int32))]) (rest := []) ⟨hx, hb, hml, hown, htw⟩ (c_M_leaves l D A G (u4 + (1 : Int32)) M20 _ _ H.size hc) ⟨(callB_of 1 htw (wsM_self mM_109) rfl rfl rfl (htw _ mM_0) (htw _ mM_107) q_M_leaves ⟨by show 2 + 1 ≤ 3; omega, by show 8 + (5 + 11) + 45 ≤ 71; omega⟩), htw _ mM_108, htw _ mM_159⟩ (kb_preV nnM_warm nnM_same hw hN 0 (wM_0 A G _) rfl) rfl rfl hl.1 rfl (lv_room (Nat.le_of_ble_eq_true rfl)) d_M_round_215 ⟨Nat.zero_le _, Nat.zero_le _⟩) hw (fun H locs hw => ?_)
                  refine lv_if_eq (tgt := 241) hx hb d_M_round_218 (by decide) (fun c => ?_) (fun c => ?_)
                  · have h := kb_ip c h
                    refine lv_iload hx hb d_M_round_241 (lv_at hl 7 rfl) ?_
                    refine lv_aload_n hx hb d_M_round_243 rfl (lv_at hl 5 rfl) ?_
                    refine lv_iload hx hb d_M_round_244 (lv_at hl 7 rfl) ?_
                    refine lv_iconst (v := 1) hx hb d_M_round_246 (by decide) ?_
                    refine lv_iadd hx hb d_M_round_247 ?_
                    obtain ⟨r23, M24, hc, h⟩ := kb_cl_some h
                    refine kb_calli0 (va_runV (As := [.int (u4 + (1 : Int32))]) (rest := [.int u4]) ⟨hx, hb, hml, hown, htw⟩ (c_M_boundAt l D A G (u4 + (1 : Int32)) M22 _ _ H.size hc) ⟨(callB_of 1 htw (wsM_self mM_90) rfl rfl rfl (htw _ mM_0) (htw _ mM_88) q_M_boundAt ⟨by show 2 + 1 ≤ 3; omega, by show 8 + (5 + 11) + 47 ≤ 71; omega⟩), htw _ mM_89, htw _ mM_154⟩ (kb_preV nnM_warm nnM_same hw hN 0 (wM_0 A G _) rfl) rfl rfl hl.1 rfl (lv_room (Nat.le_of_ble_eq_true rfl)) d_M_round_248 ⟨Nat.zero_le _, Nat.zero_le _⟩) hw (fun H locs hw => ?_)
                    refine lv_iadd hx hb d_M_round_251 ?_
                    refine lv_iload_n hx hb d_M_round_252 rfl (lv_at hl 6 rfl) ?_
                    refine lv_icmp_le (tgt := 270) hx hb d_M_round_253 (by decide) (fun c => ?_) (fun c => ?_)
                    · have h := kb_ip c h
                      refine lv_iinc (v := (u4 + 1)) (lv' := [(4, .int (u4 + 1)), (3, .int (u3 + (-1))), (8, .int r8), (7, .int (v7 - v7 / (M 0 1) * (M 0 1))), (6, .int (v7 / (M 0 1))), (5, .int v7), (0, .ref (A 0)), (1, .int u1)]) hx hb d_M_round_270 hl (k := 7) rfl rfl (by decide) rfl (fun ls hl => ?_)
                      refine lv_aload_n hx hb d_M_round_273 rfl (lv_at hl 6 rfl) ?_
                      refine kb_get (own := "PileLiftsModel") (ref := "PileLiftsModel") (C := R_M) (T := F_M) (N := 22) hx hb htw i_M hown hw 0 (wM_0 A G _) rfl 11 (by decide) (htw _ mM_16) rfl rfl d_M_round_274 ?_
                      refine lv_iload hx hb d_M_round_277 (lv_at hl 0 rfl) ?_
                      refine lv_iconst (v := 0) hx hb d_M_round_279 (by decide) ?_
                      obtain ⟨M25, eM25, hi, h⟩ := kb_wr_some h
                      refine kb_ast (ws' := (wM A G M25)) hx hb hw 8 7 rfl rfl hi d_M_round_280 (by rw [eM25]; rfl) (fun H locs hw => ?_)
                      refine lv_goto (tgt := 50) hx hb d_M_round_281 (by decide) ?_
                      exact ih u1 (u3 + (-1)) (u4 + 1) M25 _ _ _ h hw (lv_sub hl [6, 7, 1, 0] rfl)
                    · have h := kb_in c h
                      refine lv_aload_n hx hb d_M_round_256 rfl (lv_at hl 5 rfl) ?_
                      refine kb_get (own := "PileLiftsModel") (ref := "PileLiftsModel") (C := R_M) (T := F_M) (N := 22) hx hb htw i_M hown hw 0 (wM_0 A G _) rfl 11 (by decide) (htw _ mM_16) rfl rfl d_M_round_257 ?_
                      refine lv_iload hx hb d_M_round_260 (lv_at hl 7 rfl) ?_
                      refine lv_dup2_11 hx hb d_M_round_262 rfl rfl ?_
                      obtain ⟨v26, ev26, hi, h⟩ := kb_rd_some h
                      refine kb_ald hx hb hw 8 7 rfl rfl hi ev26 d_M_round_263 ?_
                      refine lv_iconst (v := 1) hx hb d_M_round_264 (by decide) ?_
                      refine lv_iadd hx hb d_M_round_265 ?_
                      obtain ⟨M27, eM27, hi, h⟩ := kb_wr_some h
                      refine kb_ast (ws' := (wM A G M27)) hx hb hw 8 7 rfl rfl hi d_M_round_266 (by rw [eM27]; rfl) (fun H locs hw => ?_)
                      refine lv_goto (tgt := 50) hx hb d_M_round_267 (by decide) ?_
                      exact ih u1 (u3 + (-1)) u4 M27 _ _ _ h hw (lv_sub hl [5, 6, 0, 7] rfl)
                  · have h := kb_in c h
                    refine lv_aload_n hx hb d_M_round_221 rfl (lv_at hl 5 rfl) ?_
                    refine lv_iconst (v := 1) hx hb d_M_round_222 (by decide) ?_
                    obtain ⟨M28, eM28, h⟩ := kb_st_some h
                    refine kb_put (ws' := (wM A G M28)) (own := "PileLiftsModel") (ref := "PileLiftsModel") (C := R_M) (T := F_M) (N := 22) (ty := .boolean) hx hb htw i_M t_M t_M_ok n_M hown hw 0 (wM_0 A G _) rfl 17 (by decide) (htw _ mM_22) rfl rfl (by decide +kernel) (kb_nz (Or.inr rfl)) (kb_fz (Or.inr rfl)) (Nat.le_of_ble_eq_true rfl) d_M_round_223 (by rw [eM28]; rfl) (fun H locs hw => ?_)
                    refine lv_aload_n hx hb d_M_round_226 rfl (lv_at hl 5 rfl) ?_
                    refine lv_aload_n hx hb d_M_round_227 rfl (lv_at hl 5 rfl) ?_
                    refine kb_get (own := "PileLiftsModel") (ref := "PileLiftsModel") (C := R_M) (T := F_M) (N := 22) hx hb htw i_M hown hw 0 (wM_0 A G _) rfl 14 (by decide) (htw _ mM_19) rfl rfl d_M_round_228 ?_
                    refine lv_iload hx hb d_M_round_231 (lv_at hl 7 rfl) ?_
                    refine lv_iconst (v := 1) hx hb d_M_round_233 (by decide) ?_
                    refine lv_iadd hx hb d_M_round_234 ?_
                    obtain ⟨v29, ev29, hi, h⟩ := kb_rd_some h
                    refine kb_ald hx hb hw 11 10 rfl rfl hi ev29 d_M_round_235 ?_
                    obtain ⟨M30, eM30, h⟩ := kb_st_some h
                    refine kb_put (ws' := (wM A G M30)) (own := "PileLiftsModel") (ref := "PileLiftsModel") (C := R_M) (T := F_M) (N := 22) (ty := .int) hx hb htw i_M t_M t_M_ok n_M hown hw 0 (wM_0 A G _) rfl 18 (by decide) (htw _ mM_23) rfl rfl (by decide +kernel) rfl rfl (Nat.le_of_ble_eq_true rfl) d_M_round_236 (by rw [eM30]; rfl) (fun H locs hw => ?_)
                    refine lv_iload_n hx hb d_M_round_239 rfl (lv_at hl 0 rfl) ?_
                    obtain ⟨rfl, rfl⟩ := kb_rt h
                    exact kb_iret hx hb hr hw hlocks d_M_round_240
                · have h := kb_ip c h
                  refine lv_iconst (v := -1) hx hb d_M_round_171 (by decide) ?_
                  obtain ⟨rfl, rfl⟩ := kb_rt h
                  exact kb_iret hx hb hr hw hlocks d_M_round_172
              · have h := kb_ip c h
                exact loop_153 u1 u3 u4 M14 _ _ _ h hw (lv_sub hl [4, 5, 6, 7] rfl)
        · have h := kb_ip c h
          refine lv_iinc (v := (u4 + (-1))) (lv' := [(4, .int (u4 + (-1))), (5, .int v7), (0, .ref (A 0)), (1, .int u1), (3, .int u3)]) hx hb d_M_round_78 hl (k := 4) rfl rfl (by decide) rfl (fun ls hl => ?_)
          refine lv_aload_n hx hb d_M_round_81 rfl (lv_at hl 2 rfl) ?_
          refine kb_get (own := "PileLiftsModel") (ref := "PileLiftsModel") (C := R_M) (T := F_M) (N := 22) hx hb htw i_M hown hw 0 (wM_0 A G _) rfl 11 (by decide) (htw _ mM_16) rfl rfl d_M_round_82 ?_
          refine lv_iload hx hb d_M_round_85 (lv_at hl 0 rfl) ?_
          refine lv_dup2_11 hx hb d_M_round_87 rfl rfl ?_
          obtain ⟨v31, ev31, hi, h⟩ := kb_rd_some h
          refine kb_ald hx hb hw 8 7 rfl rfl hi ev31 d_M_round_88 ?_
          refine lv_iconst (v := 1) hx hb d_M_round_89 (by decide) ?_
          refine lv_iadd hx hb d_M_round_90 ?_
          obtain ⟨M32, eM32, hi, h⟩ := kb_wr_some h
          refine kb_ast (ws' := (wM A G M32)) hx hb hw 8 7 rfl rfl hi d_M_round_91 (by rw [eM32]; rfl) (fun H locs hw => ?_)
          refine lv_goto (tgt := 50) hx hb d_M_round_92 (by decide) ?_
          exact ih u1 u3 (u4 + (-1)) M32 _ _ _ h hw (lv_sub hl [2, 3, 4, 0] rfl)
  have hl := lv_entry ([.ref (A 0), .int x1, .int x2]) (n := 9) (Nat.le_of_ble_eq_true rfl)
  rw [lg_entry_eq]
  generalize (lg_sl ([.ref (A 0), .int x1, .int x2]) ++ List.replicate (9 - (lg_sl ([.ref (A 0), .int x1, .int x2])).length) Slot.unset).toArray = ls at hl ⊢
  have hl : lv_has ls 9 [(0, .ref (A 0)), (1, .int x1), (2, .int x2)] := hl
  rw [f_M_round] at h
  refine lv_iload_n hx hb d_M_round_0 rfl (lv_at hl 2 rfl) ?_
  refine lv_istore_n (lv' := [(3, .int x2), (0, .ref (A 0)), (1, .int x1), (2, .int x2)]) hx hb d_M_round_1 rfl hl (by decide) rfl (fun ls hl => ?_)
  refine lv_iconst (v := 1) hx hb d_M_round_2 (by decide) ?_
  refine lv_istore (lv' := [(4, .int (1 : Int32)), (3, .int x2), (0, .ref (A 0)), (1, .int x1), (2, .int x2)]) hx hb d_M_round_3 hl (by decide) rfl (fun ls hl => ?_)
  refine lv_aload_n hx hb d_M_round_5 rfl (lv_at hl 2 rfl) ?_
  refine lv_iconst (v := 0) hx hb d_M_round_6 (by decide) ?_
  refine lv_iconst (v := 1) hx hb d_M_round_7 (by decide) ?_
  obtain ⟨r1, M2, hc, h⟩ := kb_cl_some h
  refine kb_callv0 (va_runV (As := [.int (0 : Int32), .int (1 : Int32)]) (rest := []) ⟨hx, hb, hml, hown, htw⟩ (c_M_copy l D A G (0 : Int32) (1 : Int32) M0 _ _ s.heap.size hc) ⟨(callB_of 2 htw (wsM_self mM_106) rfl rfl rfl (htw _ mM_0) (htw _ mM_104) q_M_copy ⟨by show 0 + 1 ≤ 3; omega, by show 8 + (4 + 11) + 0 ≤ 71; omega⟩), htw _ mM_105, htw _ mM_158⟩ (kb_preV nnM_warm nnM_same hw hN 0 (wM_0 A G _) rfl) rfl rfl hl.1 rfl (lv_room (Nat.le_of_ble_eq_true rfl)) d_M_round_8 ⟨Nat.zero_le _, Nat.zero_le _⟩) hw (fun H locs hw => ?_)
  refine lv_aload_n hx hb d_M_round_11 rfl (lv_at hl 2 rfl) ?_
  refine kb_get (own := "PileLiftsModel") (ref := "PileLiftsModel") (C := R_M) (T := F_M) (N := 22) hx hb htw i_M hown hw 0 (wM_0 A G _) rfl 14 (by decide) (htw _ mM_19) rfl rfl d_M_round_12 ?_
  refine lv_iconst (v := 1) hx hb d_M_round_15 (by decide) ?_
  refine lv_iconst (v := 0) hx hb d_M_round_16 (by decide) ?_
  obtain ⟨M3, eM3, hi, h⟩ := kb_wr_some h
  refine kb_ast (ws' := (wM A G M3)) hx hb hw 11 10 rfl rfl hi d_M_round_17 (by rw [eM3]; rfl) (fun H locs hw => ?_)
  refine lv_aload_n hx hb d_M_round_18 rfl (lv_at hl 2 rfl) ?_
  refine lv_iconst (v := 1) hx hb d_M_round_19 (by decide) ?_
  obtain ⟨r4, M5, hc, h⟩ := kb_cl_some h
  refine kb_calli0 (va_runV (As := [.int (1 : Int32)]) (rest := []) ⟨hx, hb, hml, hown, htw⟩ (c_M_leaves l D A G (1 : Int32) M3 _ _ H.size hc) ⟨(callB_of 1 htw (wsM_self mM_109) rfl rfl rfl (htw _ mM_0) (htw _ mM_107) q_M_leaves ⟨by show 2 + 1 ≤ 3; omega, by show 8 + (5 + 11) + 45 ≤ 71; omega⟩), htw _ mM_108, htw _ mM_159⟩ (kb_preV nnM_warm nnM_same hw hN 0 (wM_0 A G _) rfl) rfl rfl hl.1 rfl (lv_room (Nat.le_of_ble_eq_true rfl)) d_M_round_20 ⟨Nat.zero_le _, Nat.zero_le _⟩) hw (fun H locs hw => ?_)
  refine lv_if_eq (tgt := 43) hx hb d_M_round_23 (by decide) (fun c => ?_) (fun c => ?_)
  · have h := kb_ip c h
    refine lv_aload_n hx hb d_M_round_43 rfl (lv_at hl 2 rfl) ?_
    refine kb_get (own := "PileLiftsModel") (ref := "PileLiftsModel") (C := R_M) (T := F_M) (N := 22) hx hb htw i_M hown hw 0 (wM_0 A G _) rfl 11 (by decide) (htw _ mM_16) rfl rfl d_M_round_44 ?_
    refine lv_iconst (v := 1) hx hb d_M_round_47 (by decide) ?_
    refine lv_iconst (v := 0) hx hb d_M_round_48 (by decide) ?_
    obtain ⟨M6, eM6, hi, h⟩ := kb_wr_some h
    refine kb_ast (ws' := (wM A G M6)) hx hb hw 8 7 rfl rfl hi d_M_round_49 (by rw [eM6]; rfl) (fun H locs hw => ?_)
    exact loop_50 kb_F x1 x2 (1 : Int32) M6 _ _ _ h hw (lv_sub hl [2, 3, 1, 0] rfl)
  · have h := kb_in c h
    refine lv_aload_n hx hb d_M_round_26 rfl (lv_at hl 2 rfl) ?_
    refine lv_iconst (v := 1) hx hb d_M_round_27 (by decide) ?_
    obtain ⟨M33, eM33, h⟩ := kb_st_some h
    refine kb_put (ws' := (wM A G M33)) (own := "PileLiftsModel") (ref := "PileLiftsModel") (C := R_M) (T := F_M) (N := 22) (ty := .boolean) hx hb htw i_M t_M t_M_ok n_M hown hw 0 (wM_0 A G _) rfl 17 (by decide) (htw _ mM_22) rfl rfl (by decide +kernel) (kb_nz (Or.inr rfl)) (kb_fz (Or.inr rfl)) (Nat.le_of_ble_eq_true rfl) d_M_round_28 (by rw [eM33]; rfl) (fun H locs hw => ?_)
    refine lv_aload_n hx hb d_M_round_31 rfl (lv_at hl 2 rfl) ?_
    refine lv_aload_n hx hb d_M_round_32 rfl (lv_at hl 2 rfl) ?_
    refine kb_get (own := "PileLiftsModel") (ref := "PileLiftsModel") (C := R_M) (T := F_M) (N := 22) hx hb htw i_M hown hw 0 (wM_0 A G _) rfl 14 (by decide) (htw _ mM_19) rfl rfl d_M_round_33 ?_
    refine lv_iconst (v := 1) hx hb d_M_round_36 (by decide) ?_
    obtain ⟨v34, ev34, hi, h⟩ := kb_rd_some h
    refine kb_ald hx hb hw 11 10 rfl rfl hi ev34 d_M_round_37 ?_
    obtain ⟨M35, eM35, h⟩ := kb_st_some h
    refine kb_put (ws' := (wM A G M35)) (own := "PileLiftsModel") (ref := "PileLiftsModel") (C := R_M) (T := F_M) (N := 22) (ty := .int) hx hb htw i_M t_M t_M_ok n_M hown hw 0 (wM_0 A G _) rfl 18 (by decide) (htw _ mM_23) rfl rfl (by decide +kernel) rfl rfl (Nat.le_of_ble_eq_true rfl) d_M_round_38 (by rw [eM35]; rfl) (fun H locs hw => ?_)
    refine lv_iload_n hx hb d_M_round_41 rfl (lv_at hl 1 rfl) ?_
    obtain ⟨rfl, rfl⟩ := kb_rt h
    exact kb_iret hx hb hr hw hlocks d_M_round_42
def h_M_run_105 : Nat → Int32 → Int32 → (Nat → Nat → Int32) → Option (Int32 × (Nat → Nat → Int32))
  | 0, _, _, _ => none
  | n + 1, u3, u4, M => (if (M 0 18) ≤ u4 then some (u3, M) else kb_rd (M 10) 40 u4 (fun v11 => (if v11 < (0 : Int32) then h_M_run_105 n u3 (u4 + 1) M else h_M_run_105 n (u3 + 1) (u4 + 1) M)))
def h_M_run_88 (w0 : Int32) (M : Nat → Nat → Int32) : Option (Int32 × (Nat → Nat → Int32)) := kb_bz w0 (kb_st (kb_up M 0 (upd (M 0) 16 w0)) (fun M10 => (if (M10 0 17) = (0 : Int32) then some ((-1 : Int32), M10) else h_M_run_105 kb_F (0 : Int32) (0 : Int32) M10)))
def h_M_run_83 (M : Nat → Nat → Int32) : Option (Int32 × (Nat → Nat → Int32)) := h_M_run_88 (1 : Int32) M
def h_M_run_71 (u2 : Int32) (M : Nat → Nat → Int32) : Option (Int32 × (Nat → Nat → Int32)) := (if (M 0 17) = (0 : Int32) then (if u2 < (0 : Int32) then h_M_run_88 (0 : Int32) M else h_M_run_83 M) else h_M_run_83 M)
def h_M_run_41 : Nat → Int32 → Int32 → (Nat → Nat → Int32) → Option (Int32 × (Nat → Nat → Int32))
  | 0, _, _, _ => none
  | n + 1, u2, u3, M => (if (12 : Int32) < u3 then h_M_run_71 u2 M else (if u2 < (0 : Int32) then h_M_run_71 u2 M else (if (M 0 17) = (0 : Int32) then kb_cl (f_M_round u3 u2 M) (fun r12 M13 => h_M_run_41 n r12 (u3 + 1) M13) else h_M_run_71 u2 M)))
def f_M_run (x1 : Int32) (M0 : Nat → Nat → Int32) : Option (Int32 × (Nat → Nat → Int32)) := kb_cl (f_M_in x1 (0 : Int32) (100000 : Int32) M0) (fun r1 M2 => kb_cl (f_M_goes r1 (1 : Int32) (1 : Int32) M2) (fun r3 M4 => (if r3 = (0 : Int32) then some ((0 : Int32), M4) else kb_st (kb_up M4 0 (upd (M4 0) 15 (1 : Int32))) (fun M5 => kb_st (kb_up M5 0 (upd (M5 0) 17 (0 : Int32))) (fun M6 => kb_st (kb_up M6 0 (upd (M6 0) 16 (0 : Int32))) (fun M7 => kb_cl (f_M_boundAt (0 : Int32) M7) (fun r8 M9 => h_M_run_41 kb_F x1 r8 M9)))))))
set_option maxHeartbeats 4000000 in
set_option maxRecDepth 100000 in
theorem c_M_run (l : Launch) (D : va_G) (A : Nat → Nat) (G : Nat → ClassId) (x1 : Int32) (M0 : Nat → Nat → Int32) (r : Int32) (M' : Nat → Nat → Int32) (sz : Nat) (h : f_M_run x1 M0 = some (r, M')) : kb_Ci l y_M_run (Cond.code y_M_run b_M_run 5 (some .int) :: wsM) { frames := 4, cells := 0, slots := 0, locals := 99 } [.ref (A 0), .int x1] D kcl (tyM G) (wM A G M0) (wM A G M') nnM sz r := by
  refine Met.ofW (cc := b_M_run) (maxL := 5) (ret := (some .int)) (by decide) rfl ?_
  intro p e s m args below meth c s₁ B hml hv
  obtain ⟨rfl, hpre⟩ := hv
  obtain ⟨hw, hN⟩ := kb_enter hpre
  have hx := B.exec
  have hb := B.bytes
  have hr := B.returns
  have hts := atoms_spec (ws := (Cond.code y_M_run b_M_run 5 (some .int) :: wsM)) B.pre
  have htw : ∀ w ∈ wsM, w.before ([.ref (A 0), .int x1] : List Value).toArray s = true := fun w h => hts w (List.mem_cons_of_mem _ h)
  have hown : s.vm.findClass "PileLiftsModel" = some m.cls := findClass_of_methodNamed B.named
  have hlocks := B.notSynchronized
  have loop_105 : ∀ (n105 : Nat) (u3 u4 : Int32) (M : Nat → Nat → Int32) (H : Heap) (locs : List Loc) (ls : Array Slot), h_M_run_105 n105 u3 u4 M = some (r, M') → kb_K D kcl (tyM G) (wM A G M) s (va_A (wM A G M0) sz) H locs → lv_has ls 5 [(0, .ref (A 0)), (3, .int u3), (4, .int u4)] → W p l e (headSpec (Cond.code y_M_run b_M_run 5 (some .int) :: wsM) { frames := 4, cells := 0, slots := 0, locals := 99 }).room s m ([.ref (A 0), .int x1] : List Value).toArray below meth c H locs 0 0 (kb_Qi D kcl (tyM G) (wM A G M0) (wM A G M') sz r below ([.ref (A 0), .int x1] : List Value).toArray s) (F0 m 105 ls []) := by
    intro n105
    induction n105 with
    | zero =>
      intro u3 u4 M H locs ls h
      cases h
    | succ n105 ih =>
      intro u3 u4 M H locs ls h hw hl
      rw [h_M_run_105] at h
      refine lv_iload hx hb d_M_run_105 (lv_at hl 2 rfl) ?_
      refine lv_aload_n hx hb d_M_run_107 rfl (lv_at hl 0 rfl) ?_
      refine kb_get (own := "PileLiftsModel") (ref := "PileLiftsModel") (C := R_M) (T := F_M) (N := 22) hx hb htw i_M hown hw 0 (wM_0 A G _) rfl 18 (by decide) (htw _ mM_23) rfl rfl d_M_run_108 ?_
      refine lv_icmp_ge (tgt := 133) hx hb d_M_run_111 (by decide) (fun c => ?_) (fun c => ?_)
      · have h := kb_ip c h
        refine lv_iload_n hx hb d_M_run_133 rfl (lv_at hl 1 rfl) ?_
        obtain ⟨rfl, rfl⟩ := kb_rt h
        exact kb_iret hx hb hr hw hlocks d_M_run_134
      · have h := kb_in c h
        refine lv_aload_n hx hb d_M_run_114 rfl (lv_at hl 0 rfl) ?_
        refine kb_get (own := "PileLiftsModel") (ref := "PileLiftsModel") (C := R_M) (T := F_M) (N := 22) hx hb htw i_M hown hw 0 (wM_0 A G _) rfl 13 (by decide) (htw _ mM_18) rfl rfl d_M_run_115 ?_
        refine lv_iload hx hb d_M_run_118 (lv_at hl 2 rfl) ?_
        obtain ⟨v11, ev11, hi, h⟩ := kb_rd_some h
        refine kb_ald hx hb hw 10 9 rfl rfl hi ev11 d_M_run_120 ?_
        refine lv_if_lt (tgt := 127) hx hb d_M_run_121 (by decide) (fun c => ?_) (fun c => ?_)
        · have h := kb_ip c h
          refine lv_iinc (v := (u4 + 1)) (lv' := [(4, .int (u4 + 1)), (0, .ref (A 0)), (3, .int u3)]) hx hb d_M_run_127 hl (k := 2) rfl rfl (by decide) rfl (fun ls hl => ?_)
          refine lv_goto (tgt := 105) hx hb d_M_run_130 (by decide) ?_
          exact ih u3 (u4 + 1) M _ _ _ h hw (lv_sub hl [1, 2, 0] rfl)
        · have h := kb_in c h
          refine lv_iinc (v := (u3 + 1)) (lv' := [(3, .int (u3 + 1)), (0, .ref (A 0)), (4, .int u4)]) hx hb d_M_run_124 hl (k := 1) rfl rfl (by decide) rfl (fun ls hl => ?_)
          refine lv_iinc (v := (u4 + 1)) (lv' := [(4, .int (u4 + 1)), (3, .int (u3 + 1)), (0, .ref (A 0))]) hx hb d_M_run_127 hl (k := 2) rfl rfl (by decide) rfl (fun ls hl => ?_)
          refine lv_goto (tgt := 105) hx hb d_M_run_130 (by decide) ?_
          exact ih (u3 + 1) (u4 + 1) M _ _ _ h hw (lv_sub hl [2, 1, 0] rfl)
  have loop_88 : ∀ (w0 : Int32) (M : Nat → Nat → Int32) (H : Heap) (locs : List Loc) (ls : Array Slot), h_M_run_88 w0 M = some (r, M') → kb_K D kcl (tyM G) (wM A G M) s (va_A (wM A G M0) sz) H locs → lv_has ls 5 [(0, .ref (A 0))] → W p l e (headSpec (Cond.code y_M_run b_M_run 5 (some .int) :: wsM) { frames := 4, cells := 0, slots := 0, locals := 99 }).room s m ([.ref (A 0), .int x1] : List Value).toArray below meth c H locs 0 0 (kb_Qi D kcl (tyM G) (wM A G M0) (wM A G M') sz r below ([.ref (A 0), .int x1] : List Value).toArray s) (F0 m 88 ls [.int w0, .ref (A 0)]) := by
    intro w0 M H locs ls h hw hl
    rw [h_M_run_88] at h
    obtain ⟨hz, h⟩ := kb_bz_some h
    obtain ⟨M10, eM10, h⟩ := kb_st_some h
    refine kb_put (ws' := (wM A G M10)) (own := "PileLiftsModel") (ref := "PileLiftsModel") (C := R_M) (T := F_M) (N := 22) (ty := .boolean) hx hb htw i_M t_M t_M_ok n_M hown hw 0 (wM_0 A G _) rfl 16 (by decide) (htw _ mM_21) rfl rfl (by decide +kernel) (kb_nz hz) (kb_fz hz) (Nat.le_of_ble_eq_true rfl) d_M_run_88 (by rw [eM10]; rfl) (fun H locs hw => ?_)
    refine lv_aload_n hx hb d_M_run_91 rfl (lv_at hl 0 rfl) ?_
    refine kb_get (own := "PileLiftsModel") (ref := "PileLiftsModel") (C := R_M) (T := F_M) (N := 22) hx hb htw i_M hown hw 0 (wM_0 A G _) rfl 17 (by decide) (htw _ mM_22) rfl rfl d_M_run_92 ?_
    refine lv_if_ne (tgt := 100) hx hb d_M_run_95 (by decide) (fun c => ?_) (fun c => ?_)
    · have h := kb_in c h
      refine lv_iconst (v := 0) hx hb d_M_run_100 (by decide) ?_
      refine lv_istore_n (lv' := [(3, .int (0 : Int32)), (0, .ref (A 0))]) hx hb d_M_run_101 rfl hl (by decide) rfl (fun ls hl => ?_)
      refine lv_iconst (v := 0) hx hb d_M_run_102 (by decide) ?_
      refine lv_istore (lv' := [(4, .int (0 : Int32)), (3, .int (0 : Int32)), (0, .ref (A 0))]) hx hb d_M_run_103 hl (by decide) rfl (fun ls hl => ?_)
      exact loop_105 kb_F (0 : Int32) (0 : Int32) M10 _ _ _ h hw (lv_sub hl [2, 1, 0] rfl)
    · have h := kb_ip c h
      refine lv_iconst (v := -1) hx hb d_M_run_98 (by decide) ?_
      obtain ⟨rfl, rfl⟩ := kb_rt h
      exact kb_iret hx hb hr hw hlocks d_M_run_99
  have loop_83 : ∀ (M : Nat → Nat → Int32) (H : Heap) (locs : List Loc) (ls : Array Slot), h_M_run_83 M = some (r, M') → kb_K D kcl (tyM G) (wM A G M) s (va_A (wM A G M0) sz) H locs → lv_has ls 5 [(0, .ref (A 0))] → W p l e (headSpec (Cond.code y_M_run b_M_run 5 (some .int) :: wsM) { frames := 4, cells := 0, slots := 0, locals := 99 }).room s m ([.ref (A 0), .int x1] : List Value).toArray below meth c H locs 0 0 (kb_Qi D kcl (tyM G) (wM A G M0) (wM A G M') sz r below ([.ref (A 0), .int x1] : List Value).toArray s) (F0 m 83 ls [.ref (A 0)]) := by
    intro M H locs ls h hw hl
    rw [h_M_run_83] at h
    refine lv_iconst (v := 1) hx hb d_M_run_83 (by decide) ?_
    refine lv_goto (tgt := 88) hx hb d_M_run_84 (by decide) ?_
    exact loop_88 (1 : Int32) M _ _ _ h hw (lv_sub hl [0] rfl)
  have loop_71 : ∀ (u2 : Int32) (M : Nat → Nat → Int32) (H : Heap) (locs : List Loc) (ls : Array Slot), h_M_run_71 u2 M = some (r, M') → kb_K D kcl (tyM G) (wM A G M) s (va_A (wM A G M0) sz) H locs → lv_has ls 5 [(0, .ref (A 0)), (2, .int u2)] → W p l e (headSpec (Cond.code y_M_run b_M_run 5 (some .int) :: wsM) { frames := 4, cells := 0, slots := 0, locals := 99 }).room s m ([.ref (A 0), .int x1] : List Value).toArray below meth c H locs 0 0 (kb_Qi D kcl (tyM G) (wM A G M0) (wM A G M') sz r below ([.ref (A 0), .int x1] : List Value).toArray s) (F0 m 71 ls []) := by
    intro u2 M H locs ls h hw hl
    rw [h_M_run_71] at h
    refine lv_aload_n hx hb d_M_run_71 rfl (lv_at hl 0 rfl) ?_
    refine lv_aload_n hx hb d_M_run_72 rfl (lv_at hl 0 rfl) ?_
    refine kb_get (own := "PileLiftsModel") (ref := "PileLiftsModel") (C := R_M) (T := F_M) (N := 22) hx hb htw i_M hown hw 0 (wM_0 A G _) rfl 17 (by decide) (htw _ mM_22) rfl rfl d_M_run_73 ?_
    refine lv_if_ne (tgt := 83) hx hb d_M_run_76 (by decide) (fun c => ?_) (fun c => ?_)
    · have h := kb_in c h
      exact loop_83 M _ _ _ h hw (lv_sub hl [0] rfl)
    · have h := kb_ip c h
      refine lv_iload_n hx hb d_M_run_79 rfl (lv_at hl 1 rfl) ?_
      refine lv_if_lt (tgt := 87) hx hb d_M_run_80 (by decide) (fun c => ?_) (fun c => ?_)
      · have h := kb_ip c h
        refine lv_iconst (v := 0) hx hb d_M_run_87 (by decide) ?_
        exact loop_88 (0 : Int32) M _ _ _ h hw (lv_sub hl [0] rfl)
      · have h := kb_in c h
        exact loop_83 M _ _ _ h hw (lv_sub hl [0] rfl)
  have loop_41 : ∀ (n41 : Nat) (u2 u3 : Int32) (M : Nat → Nat → Int32) (H : Heap) (locs : List Loc) (ls : Array Slot), h_M_run_41 n41 u2 u3 M = some (r, M') → kb_K D kcl (tyM G) (wM A G M) s (va_A (wM A G M0) sz) H locs → lv_has ls 5 [(0, .ref (A 0)), (2, .int u2), (3, .int u3)] → W p l e (headSpec (Cond.code y_M_run b_M_run 5 (some .int) :: wsM) { frames := 4, cells := 0, slots := 0, locals := 99 }).room s m ([.ref (A 0), .int x1] : List Value).toArray below meth c H locs 0 0 (kb_Qi D kcl (tyM G) (wM A G M0) (wM A G M') sz r below ([.ref (A 0), .int x1] : List Value).toArray s) (F0 m 41 ls []) := by
    intro n41
    induction n41 with
    | zero =>
      intro u2 u3 M H locs ls h
      cases h
    | succ n41 ih =>
      intro u2 u3 M H locs ls h hw hl
      rw [h_M_run_41] at h
      refine lv_iload_n hx hb d_M_run_41 rfl (lv_at hl 2 rfl) ?_
      refine lv_bipush (v := 12) hx hb d_M_run_42 (by decide) ?_
      refine lv_icmp_gt (tgt := 71) hx hb d_M_run_44 (by decide) (fun c => ?_) (fun c => ?_)
      · have h := kb_ip c h
        exact loop_71 u2 M _ _ _ h hw (lv_sub hl [0, 1] rfl)
      · have h := kb_in c h
        refine lv_iload_n hx hb d_M_run_47 rfl (lv_at hl 1 rfl) ?_
        refine lv_if_lt (tgt := 71) hx hb d_M_run_48 (by decide) (fun c => ?_) (fun c => ?_)
        · have h := kb_ip c h
          exact loop_71 u2 M _ _ _ h hw (lv_sub hl [0, 1] rfl)
        · have h := kb_in c h
          refine lv_aload_n hx hb d_M_run_51 rfl (lv_at hl 0 rfl) ?_
          refine kb_get (own := "PileLiftsModel") (ref := "PileLiftsModel") (C := R_M) (T := F_M) (N := 22) hx hb htw i_M hown hw 0 (wM_0 A G _) rfl 17 (by decide) (htw _ mM_22) rfl rfl d_M_run_52 ?_
          refine lv_if_ne (tgt := 71) hx hb d_M_run_55 (by decide) (fun c => ?_) (fun c => ?_)
          · have h := kb_in c h
            exact loop_71 u2 M _ _ _ h hw (lv_sub hl [0, 1] rfl)
          · have h := kb_ip c h
            refine lv_aload_n hx hb d_M_run_58 rfl (lv_at hl 0 rfl) ?_
            refine lv_iload_n hx hb d_M_run_59 rfl (lv_at hl 2 rfl) ?_
            refine lv_iload_n hx hb d_M_run_60 rfl (lv_at hl 1 rfl) ?_
            obtain ⟨r12, M13, hc, h⟩ := kb_cl_some h
            refine kb_calli0 (va_runV (As := [.int u3, .int u2]) (rest := []) ⟨hx, hb, hml, hown, htw⟩ (c_M_round l D A G u3 u2 M _ _ H.size hc) ⟨(callB_of 2 htw (wsM_self mM_103) rfl rfl rfl (htw _ mM_0) (htw _ mM_101) q_M_round ⟨by show 3 + 1 ≤ 4; omega, by show 8 + (9 + 11) + 71 ≤ 99; omega⟩), htw _ mM_102, htw _ mM_157⟩ (kb_preV nnM_warm nnM_same hw hN 0 (wM_0 A G _) rfl) rfl rfl hl.1 rfl (lv_room (Nat.le_of_ble_eq_true rfl)) d_M_run_61 ⟨Nat.zero_le _, Nat.zero_le _⟩) hw (fun H locs hw => ?_)
            refine lv_istore_n (lv' := [(2, .int r12), (0, .ref (A 0)), (3, .int u3)]) hx hb d_M_run_64 rfl hl (by decide) rfl (fun ls hl => ?_)
            refine lv_iinc (v := (u3 + 1)) (lv' := [(3, .int (u3 + 1)), (2, .int r12), (0, .ref (A 0))]) hx hb d_M_run_65 hl (k := 2) rfl rfl (by decide) rfl (fun ls hl => ?_)
            refine lv_goto (tgt := 41) hx hb d_M_run_68 (by decide) ?_
            exact ih r12 (u3 + 1) M13 _ _ _ h hw (lv_sub hl [2, 1, 0] rfl)
  have hl := lv_entry ([.ref (A 0), .int x1]) (n := 5) (Nat.le_of_ble_eq_true rfl)
  rw [lg_entry_eq]
  generalize (lg_sl ([.ref (A 0), .int x1]) ++ List.replicate (5 - (lg_sl ([.ref (A 0), .int x1])).length) Slot.unset).toArray = ls at hl ⊢
  have hl : lv_has ls 5 [(0, .ref (A 0)), (1, .int x1)] := hl
  rw [f_M_run] at h
  refine lv_aload_n hx hb d_M_run_0 rfl (lv_at hl 0 rfl) ?_
  refine lv_iload_n hx hb d_M_run_1 rfl (lv_at hl 1 rfl) ?_
  refine lv_iconst (v := 0) hx hb d_M_run_2 (by decide) ?_
  refine lv_ldc (v := 100000) hx hb hown (htw _ mM_100) d_M_run_3 ?_
  obtain ⟨r1, M2, hc, h⟩ := kb_cl_some h
  refine kb_calli0 (va_runS (As := [.int x1, .int (0 : Int32), .int (100000 : Int32)]) (rest := [.ref (A 0)]) ⟨hx, hb, hml, hown, htw⟩ (c_M_in l D A G x1 (0 : Int32) (100000 : Int32) M0 _ _ s.heap.size hc) ⟨(callB_of 3 htw (wsM_self mM_57) rfl rfl rfl (htw _ mM_0) (htw _ mM_55) q_M_in ⟨by show 0 + 1 ≤ 4; omega, by show 8 + (3 + 11) + 0 ≤ 99; omega⟩), htw _ mM_56⟩ (kb_preS nnM_warm nnM_same hw hN ) rfl rfl hl.1 rfl (lv_room (Nat.le_of_ble_eq_true rfl)) d_M_run_5 ⟨Nat.zero_le _, Nat.zero_le _⟩) hw (fun H locs hw => ?_)
  refine lv_iconst (v := 1) hx hb d_M_run_8 (by decide) ?_
  refine lv_iconst (v := 1) hx hb d_M_run_9 (by decide) ?_
  obtain ⟨r3, M4, hc, h⟩ := kb_cl_some h
  refine kb_calli0 (va_runV (As := [.int r1, .int (1 : Int32), .int (1 : Int32)]) (rest := []) ⟨hx, hb, hml, hown, htw⟩ (c_M_goes l D A G r1 (1 : Int32) (1 : Int32) M2 _ _ H.size hc) ⟨(callB_of 3 htw (wsM_self mM_60) rfl rfl rfl (htw _ mM_0) (htw _ mM_58) q_M_goes ⟨by show 0 + 1 ≤ 4; omega, by show 8 + (4 + 11) + 0 ≤ 99; omega⟩), htw _ mM_59, htw _ mM_149⟩ (kb_preV nnM_warm nnM_same hw hN 0 (wM_0 A G _) rfl) rfl rfl hl.1 rfl (lv_room (Nat.le_of_ble_eq_true rfl)) d_M_run_10 ⟨Nat.zero_le _, Nat.zero_le _⟩) hw (fun H locs hw => ?_)
  refine lv_if_ne (tgt := 18) hx hb d_M_run_13 (by decide) (fun c => ?_) (fun c => ?_)
  · have h := kb_in c h
    refine lv_aload_n hx hb d_M_run_18 rfl (lv_at hl 0 rfl) ?_
    refine lv_iconst (v := 1) hx hb d_M_run_19 (by decide) ?_
    obtain ⟨M5, eM5, h⟩ := kb_st_some h
    refine kb_put (ws' := (wM A G M5)) (own := "PileLiftsModel") (ref := "PileLiftsModel") (C := R_M) (T := F_M) (N := 22) (ty := .boolean) hx hb htw i_M t_M t_M_ok n_M hown hw 0 (wM_0 A G _) rfl 15 (by decide) (htw _ mM_20) rfl rfl (by decide +kernel) (kb_nz (Or.inr rfl)) (kb_fz (Or.inr rfl)) (Nat.le_of_ble_eq_true rfl) d_M_run_20 (by rw [eM5]; rfl) (fun H locs hw => ?_)
    refine lv_aload_n hx hb d_M_run_23 rfl (lv_at hl 0 rfl) ?_
    refine lv_iconst (v := 0) hx hb d_M_run_24 (by decide) ?_
    obtain ⟨M6, eM6, h⟩ := kb_st_some h
    refine kb_put (ws' := (wM A G M6)) (own := "PileLiftsModel") (ref := "PileLiftsModel") (C := R_M) (T := F_M) (N := 22) (ty := .boolean) hx hb htw i_M t_M t_M_ok n_M hown hw 0 (wM_0 A G _) rfl 17 (by decide) (htw _ mM_22) rfl rfl (by decide +kernel) (kb_nz (Or.inl rfl)) (kb_fz (Or.inl rfl)) (Nat.le_of_ble_eq_true rfl) d_M_run_25 (by rw [eM6]; rfl) (fun H locs hw => ?_)
    refine lv_aload_n hx hb d_M_run_28 rfl (lv_at hl 0 rfl) ?_
    refine lv_iconst (v := 0) hx hb d_M_run_29 (by decide) ?_
    obtain ⟨M7, eM7, h⟩ := kb_st_some h
    refine kb_put (ws' := (wM A G M7)) (own := "PileLiftsModel") (ref := "PileLiftsModel") (C := R_M) (T := F_M) (N := 22) (ty := .boolean) hx hb htw i_M t_M t_M_ok n_M hown hw 0 (wM_0 A G _) rfl 16 (by decide) (htw _ mM_21) rfl rfl (by decide +kernel) (kb_nz (Or.inl rfl)) (kb_fz (Or.inl rfl)) (Nat.le_of_ble_eq_true rfl) d_M_run_30 (by rw [eM7]; rfl) (fun H locs hw => ?_)
    refine lv_iload_n hx hb d_M_run_33 rfl (lv_at hl 1 rfl) ?_
    refine lv_istore_n (lv' := [(2, .int x1), (0, .ref (A 0)), (1, .int x1)]) hx hb d_M_run_34 rfl hl (by decide) rfl (fun ls hl => ?_)
    refine lv_aload_n hx hb d_M_run_35 rfl (lv_at hl 1 rfl) ?_
    refine lv_iconst (v := 0) hx hb d_M_run_36 (by decide) ?_
    obtain ⟨r8, M9, hc, h⟩ := kb_cl_some h
    refine kb_calli0 (va_runV (As := [.int (0 : Int32)]) (rest := []) ⟨hx, hb, hml, hown, htw⟩ (c_M_boundAt l D A G (0 : Int32) M7 _ _ H.size hc) ⟨(callB_of 1 htw (wsM_self mM_90) rfl rfl rfl (htw _ mM_0) (htw _ mM_88) q_M_boundAt ⟨by show 2 + 1 ≤ 4; omega, by show 8 + (5 + 11) + 47 ≤ 99; omega⟩), htw _ mM_89, htw _ mM_154⟩ (kb_preV nnM_warm nnM_same hw hN 0 (wM_0 A G _) rfl) rfl rfl hl.1 rfl (lv_room (Nat.le_of_ble_eq_true rfl)) d_M_run_37 ⟨Nat.zero_le _, Nat.zero_le _⟩) hw (fun H locs hw => ?_)
    refine lv_istore_n (lv' := [(3, .int r8), (2, .int x1), (0, .ref (A 0)), (1, .int x1)]) hx hb d_M_run_40 rfl hl (by decide) rfl (fun ls hl => ?_)
    exact loop_41 kb_F x1 r8 M9 _ _ _ h hw (lv_sub hl [2, 1, 0] rfl)
  · have h := kb_ip c h
    refine lv_iconst (v := 0) hx hb d_M_run_16 (by decide) ?_
    obtain ⟨rfl, rfl⟩ := kb_rt h
    exact kb_iret hx hb hr hw hlocks d_M_run_17
def f_M_proved (M0 : Nat → Nat → Int32) : Option (Int32 × (Nat → Nat → Int32)) := kb_cl (f_M_goes (M0 0 15) (1 : Int32) (1 : Int32) M0) (fun r1 M2 => (if r1 = (0 : Int32) then some ((0 : Int32), M2) else (if (M2 0 16) = (0 : Int32) then some ((0 : Int32), M2) else some ((1 : Int32), M2))))
set_option maxHeartbeats 4000000 in
set_option maxRecDepth 100000 in
theorem c_M_proved (l : Launch) (D : va_G) (A : Nat → Nat) (G : Nat → ClassId) (M0 : Nat → Nat → Int32) (r : Int32) (M' : Nat → Nat → Int32) (sz : Nat) (h : f_M_proved M0 = some (r, M')) : kb_Ci l y_M_proved (Cond.code y_M_proved b_M_proved 1 (some .boolean) :: wsM) { frames := 1, cells := 0, slots := 0, locals := 23 } [.ref (A 0)] D kcl (tyM G) (wM A G M0) (wM A G M') nnM sz r := by
  refine Met.ofW (cc := b_M_proved) (maxL := 1) (ret := (some .boolean)) (by decide) rfl ?_
  intro p e s m args below meth c s₁ B hml hv
  obtain ⟨rfl, hpre⟩ := hv
  obtain ⟨hw, hN⟩ := kb_enter hpre
  have hx := B.exec
  have hb := B.bytes
  have hr := B.returns
  have hts := atoms_spec (ws := (Cond.code y_M_proved b_M_proved 1 (some .boolean) :: wsM)) B.pre
  have htw : ∀ w ∈ wsM, w.before ([.ref (A 0)] : List Value).toArray s = true := fun w h => hts w (List.mem_cons_of_mem _ h)
  have hown : s.vm.findClass "PileLiftsModel" = some m.cls := findClass_of_methodNamed B.named
  have hlocks := B.notSynchronized
  have hl := lv_entry ([.ref (A 0)]) (n := 1) (Nat.le_of_ble_eq_true rfl)
  rw [lg_entry_eq]
  generalize (lg_sl ([.ref (A 0)]) ++ List.replicate (1 - (lg_sl ([.ref (A 0)])).length) Slot.unset).toArray = ls at hl ⊢
  have hl : lv_has ls 1 [(0, .ref (A 0))] := hl
  rw [f_M_proved] at h
  refine lv_aload_n hx hb d_M_proved_0 rfl (lv_at hl 0 rfl) ?_
  refine lv_aload_n hx hb d_M_proved_1 rfl (lv_at hl 0 rfl) ?_
  refine kb_get (own := "PileLiftsModel") (ref := "PileLiftsModel") (C := R_M) (T := F_M) (N := 22) hx hb htw i_M hown hw 0 (wM_0 A G _) rfl 15 (by decide) (htw _ mM_20) rfl rfl d_M_proved_2 ?_
  refine lv_iconst (v := 1) hx hb d_M_proved_5 (by decide) ?_
  refine lv_iconst (v := 1) hx hb d_M_proved_6 (by decide) ?_
  obtain ⟨r1, M2, hc, h⟩ := kb_cl_some h
  refine kb_calli0 (va_runV (As := [.int (M0 0 15), .int (1 : Int32), .int (1 : Int32)]) (rest := []) ⟨hx, hb, hml, hown, htw⟩ (c_M_goes l D A G (M0 0 15) (1 : Int32) (1 : Int32) M0 _ _ s.heap.size hc) ⟨(callB_of 3 htw (wsM_self mM_60) rfl rfl rfl (htw _ mM_0) (htw _ mM_58) q_M_goes ⟨by show 0 + 1 ≤ 1; omega, by show 8 + (4 + 11) + 0 ≤ 23; omega⟩), htw _ mM_59, htw _ mM_149⟩ (kb_preV nnM_warm nnM_same hw hN 0 (wM_0 A G _) rfl) rfl rfl hl.1 rfl (lv_room (Nat.le_of_ble_eq_true rfl)) d_M_proved_7 ⟨Nat.zero_le _, Nat.zero_le _⟩) hw (fun H locs hw => ?_)
  refine lv_if_eq (tgt := 24) hx hb d_M_proved_10 (by decide) (fun c => ?_) (fun c => ?_)
  · have h := kb_ip c h
    refine lv_iconst (v := 0) hx hb d_M_proved_24 (by decide) ?_
    obtain ⟨rfl, rfl⟩ := kb_rt h
    exact kb_zret hx hb hr hw hlocks (Or.inl rfl) d_M_proved_25
  · have h := kb_in c h
    refine lv_aload_n hx hb d_M_proved_13 rfl (lv_at hl 0 rfl) ?_
    refine kb_get (own := "PileLiftsModel") (ref := "PileLiftsModel") (C := R_M) (T := F_M) (N := 22) hx hb htw i_M hown hw 0 (wM_0 A G _) rfl 16 (by decide) (htw _ mM_21) rfl rfl d_M_proved_14 ?_
    refine lv_if_eq (tgt := 24) hx hb d_M_proved_17 (by decide) (fun c => ?_) (fun c => ?_)
    · have h := kb_ip c h
      refine lv_iconst (v := 0) hx hb d_M_proved_24 (by decide) ?_
      obtain ⟨rfl, rfl⟩ := kb_rt h
      exact kb_zret hx hb hr hw hlocks (Or.inl rfl) d_M_proved_25
    · have h := kb_in c h
      refine lv_iconst (v := 1) hx hb d_M_proved_20 (by decide) ?_
      refine lv_goto (tgt := 25) hx hb d_M_proved_21 (by decide) ?_
      obtain ⟨rfl, rfl⟩ := kb_rt h
      exact kb_zret hx hb hr hw hlocks (Or.inr rfl) d_M_proved_25
def f_M_moves (M0 : Nat → Nat → Int32) : Option (Int32 × (Nat → Nat → Int32)) := kb_cl (f_M_goes (M0 0 17) (1 : Int32) (1 : Int32) M0) (fun r1 M2 => (if r1 = (0 : Int32) then some ((0 : Int32), M2) else some ((M2 0 18), M2)))
set_option maxHeartbeats 4000000 in
set_option maxRecDepth 100000 in
theorem c_M_moves (l : Launch) (D : va_G) (A : Nat → Nat) (G : Nat → ClassId) (M0 : Nat → Nat → Int32) (r : Int32) (M' : Nat → Nat → Int32) (sz : Nat) (h : f_M_moves M0 = some (r, M')) : kb_Ci l y_M_moves (Cond.code y_M_moves b_M_moves 1 (some .int) :: wsM) { frames := 1, cells := 0, slots := 0, locals := 23 } [.ref (A 0)] D kcl (tyM G) (wM A G M0) (wM A G M') nnM sz r := by
  refine Met.ofW (cc := b_M_moves) (maxL := 1) (ret := (some .int)) (by decide) rfl ?_
  intro p e s m args below meth c s₁ B hml hv
  obtain ⟨rfl, hpre⟩ := hv
  obtain ⟨hw, hN⟩ := kb_enter hpre
  have hx := B.exec
  have hb := B.bytes
  have hr := B.returns
  have hts := atoms_spec (ws := (Cond.code y_M_moves b_M_moves 1 (some .int) :: wsM)) B.pre
  have htw : ∀ w ∈ wsM, w.before ([.ref (A 0)] : List Value).toArray s = true := fun w h => hts w (List.mem_cons_of_mem _ h)
  have hown : s.vm.findClass "PileLiftsModel" = some m.cls := findClass_of_methodNamed B.named
  have hlocks := B.notSynchronized
  have hl := lv_entry ([.ref (A 0)]) (n := 1) (Nat.le_of_ble_eq_true rfl)
  rw [lg_entry_eq]
  generalize (lg_sl ([.ref (A 0)]) ++ List.replicate (1 - (lg_sl ([.ref (A 0)])).length) Slot.unset).toArray = ls at hl ⊢
  have hl : lv_has ls 1 [(0, .ref (A 0))] := hl
  rw [f_M_moves] at h
  refine lv_aload_n hx hb d_M_moves_0 rfl (lv_at hl 0 rfl) ?_
  refine lv_aload_n hx hb d_M_moves_1 rfl (lv_at hl 0 rfl) ?_
  refine kb_get (own := "PileLiftsModel") (ref := "PileLiftsModel") (C := R_M) (T := F_M) (N := 22) hx hb htw i_M hown hw 0 (wM_0 A G _) rfl 17 (by decide) (htw _ mM_22) rfl rfl d_M_moves_2 ?_
  refine lv_iconst (v := 1) hx hb d_M_moves_5 (by decide) ?_
  refine lv_iconst (v := 1) hx hb d_M_moves_6 (by decide) ?_
  obtain ⟨r1, M2, hc, h⟩ := kb_cl_some h
  refine kb_calli0 (va_runV (As := [.int (M0 0 17), .int (1 : Int32), .int (1 : Int32)]) (rest := []) ⟨hx, hb, hml, hown, htw⟩ (c_M_goes l D A G (M0 0 17) (1 : Int32) (1 : Int32) M0 _ _ s.heap.size hc) ⟨(callB_of 3 htw (wsM_self mM_60) rfl rfl rfl (htw _ mM_0) (htw _ mM_58) q_M_goes ⟨by show 0 + 1 ≤ 1; omega, by show 8 + (4 + 11) + 0 ≤ 23; omega⟩), htw _ mM_59, htw _ mM_149⟩ (kb_preV nnM_warm nnM_same hw hN 0 (wM_0 A G _) rfl) rfl rfl hl.1 rfl (lv_room (Nat.le_of_ble_eq_true rfl)) d_M_moves_7 ⟨Nat.zero_le _, Nat.zero_le _⟩) hw (fun H locs hw => ?_)
  refine lv_if_ne (tgt := 15) hx hb d_M_moves_10 (by decide) (fun c => ?_) (fun c => ?_)
  · have h := kb_in c h
    refine lv_aload_n hx hb d_M_moves_15 rfl (lv_at hl 0 rfl) ?_
    refine kb_get (own := "PileLiftsModel") (ref := "PileLiftsModel") (C := R_M) (T := F_M) (N := 22) hx hb htw i_M hown hw 0 (wM_0 A G _) rfl 18 (by decide) (htw _ mM_23) rfl rfl d_M_moves_16 ?_
    obtain ⟨rfl, rfl⟩ := kb_rt h
    exact kb_iret hx hb hr hw hlocks d_M_moves_19
  · have h := kb_ip c h
    refine lv_iconst (v := 0) hx hb d_M_moves_13 (by decide) ?_
    obtain ⟨rfl, rfl⟩ := kb_rt h
    exact kb_iret hx hb hr hw hlocks d_M_moves_14
def f_M_move (x1 x2 : Int32) (M0 : Nat → Nat → Int32) : Option (Int32 × (Nat → Nat → Int32)) := kb_cl (f_M_in x2 (0 : Int32) (1 : Int32) M0) (fun r1 M2 => kb_cl (f_M_in x1 (0 : Int32) ((M2 0 18) - (1 : Int32)) M2) (fun r3 M4 => kb_cl (f_M_goes r1 (M2 0 17) r3 M4) (fun r5 M6 => (if r5 = (0 : Int32) then some ((0 : Int32), M6) else (if x2 = (0 : Int32) then kb_rd (M6 9) 40 x1 (fun v8 => some (v8, M6)) else kb_rd (M6 10) 40 x1 (fun v7 => some (v7, M6)))))))
set_option maxHeartbeats 4000000 in
set_option maxRecDepth 100000 in
theorem c_M_move (l : Launch) (D : va_G) (A : Nat → Nat) (G : Nat → ClassId) (x1 x2 : Int32) (M0 : Nat → Nat → Int32) (r : Int32) (M' : Nat → Nat → Int32) (sz : Nat) (h : f_M_move x1 x2 M0 = some (r, M')) : kb_Ci l y_M_move (Cond.code y_M_move b_M_move 3 (some .int) :: wsM) { frames := 1, cells := 0, slots := 0, locals := 23 } [.ref (A 0), .int x1, .int x2] D kcl (tyM G) (wM A G M0) (wM A G M') nnM sz r := by
  refine Met.ofW (cc := b_M_move) (maxL := 3) (ret := (some .int)) (by decide) rfl ?_
  intro p e s m args below meth c s₁ B hml hv
  obtain ⟨rfl, hpre⟩ := hv
  obtain ⟨hw, hN⟩ := kb_enter hpre
  have hx := B.exec
  have hb := B.bytes
  have hr := B.returns
  have hts := atoms_spec (ws := (Cond.code y_M_move b_M_move 3 (some .int) :: wsM)) B.pre
  have htw : ∀ w ∈ wsM, w.before ([.ref (A 0), .int x1, .int x2] : List Value).toArray s = true := fun w h => hts w (List.mem_cons_of_mem _ h)
  have hown : s.vm.findClass "PileLiftsModel" = some m.cls := findClass_of_methodNamed B.named
  have hlocks := B.notSynchronized
  have hl := lv_entry ([.ref (A 0), .int x1, .int x2]) (n := 3) (Nat.le_of_ble_eq_true rfl)
  rw [lg_entry_eq]
  generalize (lg_sl ([.ref (A 0), .int x1, .int x2]) ++ List.replicate (3 - (lg_sl ([.ref (A 0), .int x1, .int x2])).length) Slot.unset).toArray = ls at hl ⊢
  have hl : lv_has ls 3 [(0, .ref (A 0)), (1, .int x1), (2, .int x2)] := hl
  rw [f_M_move] at h
  refine lv_aload_n hx hb d_M_move_0 rfl (lv_at hl 0 rfl) ?_
  refine lv_iload_n hx hb d_M_move_1 rfl (lv_at hl 2 rfl) ?_
  refine lv_iconst (v := 0) hx hb d_M_move_2 (by decide) ?_
  refine lv_iconst (v := 1) hx hb d_M_move_3 (by decide) ?_
  obtain ⟨r1, M2, hc, h⟩ := kb_cl_some h
  refine kb_calli0 (va_runS (As := [.int x2, .int (0 : Int32), .int (1 : Int32)]) (rest := [.ref (A 0)]) ⟨hx, hb, hml, hown, htw⟩ (c_M_in l D A G x2 (0 : Int32) (1 : Int32) M0 _ _ s.heap.size hc) ⟨(callB_of 3 htw (wsM_self mM_57) rfl rfl rfl (htw _ mM_0) (htw _ mM_55) q_M_in ⟨by show 0 + 1 ≤ 1; omega, by show 8 + (3 + 11) + 0 ≤ 23; omega⟩), htw _ mM_56⟩ (kb_preS nnM_warm nnM_same hw hN ) rfl rfl hl.1 rfl (lv_room (Nat.le_of_ble_eq_true rfl)) d_M_move_4 ⟨Nat.zero_le _, Nat.zero_le _⟩) hw (fun H locs hw => ?_)
  refine lv_aload_n hx hb d_M_move_7 rfl (lv_at hl 0 rfl) ?_
  refine kb_get (own := "PileLiftsModel") (ref := "PileLiftsModel") (C := R_M) (T := F_M) (N := 22) hx hb htw i_M hown hw 0 (wM_0 A G _) rfl 17 (by decide) (htw _ mM_22) rfl rfl d_M_move_8 ?_
  refine lv_iload_n hx hb d_M_move_11 rfl (lv_at hl 1 rfl) ?_
  refine lv_iconst (v := 0) hx hb d_M_move_12 (by decide) ?_
  refine lv_aload_n hx hb d_M_move_13 rfl (lv_at hl 0 rfl) ?_
  refine kb_get (own := "PileLiftsModel") (ref := "PileLiftsModel") (C := R_M) (T := F_M) (N := 22) hx hb htw i_M hown hw 0 (wM_0 A G _) rfl 18 (by decide) (htw _ mM_23) rfl rfl d_M_move_14 ?_
  refine lv_iconst (v := 1) hx hb d_M_move_17 (by decide) ?_
  refine lv_isub hx hb d_M_move_18 ?_
  obtain ⟨r3, M4, hc, h⟩ := kb_cl_some h
  refine kb_calli0 (va_runS (As := [.int x1, .int (0 : Int32), .int ((M2 0 18) - (1 : Int32))]) (rest := [.int (M2 0 17), .int r1, .ref (A 0)]) ⟨hx, hb, hml, hown, htw⟩ (c_M_in l D A G x1 (0 : Int32) ((M2 0 18) - (1 : Int32)) M2 _ _ H.size hc) ⟨(callB_of 3 htw (wsM_self mM_57) rfl rfl rfl (htw _ mM_0) (htw _ mM_55) q_M_in ⟨by show 0 + 1 ≤ 1; omega, by show 8 + (3 + 11) + 0 ≤ 23; omega⟩), htw _ mM_56⟩ (kb_preS nnM_warm nnM_same hw hN ) rfl rfl hl.1 rfl (lv_room (Nat.le_of_ble_eq_true rfl)) d_M_move_19 ⟨Nat.zero_le _, Nat.zero_le _⟩) hw (fun H locs hw => ?_)
  obtain ⟨r5, M6, hc, h⟩ := kb_cl_some h
  refine kb_calli0 (va_runV (As := [.int r1, .int (M2 0 17), .int r3]) (rest := []) ⟨hx, hb, hml, hown, htw⟩ (c_M_goes l D A G r1 (M2 0 17) r3 M4 _ _ H.size hc) ⟨(callB_of 3 htw (wsM_self mM_60) rfl rfl rfl (htw _ mM_0) (htw _ mM_58) q_M_goes ⟨by show 0 + 1 ≤ 1; omega, by show 8 + (4 + 11) + 0 ≤ 23; omega⟩), htw _ mM_59, htw _ mM_149⟩ (kb_preV nnM_warm nnM_same hw hN 0 (wM_0 A G _) rfl) rfl rfl hl.1 rfl (lv_room (Nat.le_of_ble_eq_true rfl)) d_M_move_22 ⟨Nat.zero_le _, Nat.zero_le _⟩) hw (fun H locs hw => ?_)
  refine lv_if_ne (tgt := 30) hx hb d_M_move_25 (by decide) (fun c => ?_) (fun c => ?_)
  · have h := kb_in c h
    refine lv_iload_n hx hb d_M_move_30 rfl (lv_at hl 2 rfl) ?_
    refine lv_if_ne (tgt := 43) hx hb d_M_move_31 (by decide) (fun c => ?_) (fun c => ?_)
    · have h := kb_in c h
      refine lv_aload_n hx hb d_M_move_43 rfl (lv_at hl 0 rfl) ?_
      refine kb_get (own := "PileLiftsModel") (ref := "PileLiftsModel") (C := R_M) (T := F_M) (N := 22) hx hb htw i_M hown hw 0 (wM_0 A G _) rfl 13 (by decide) (htw _ mM_18) rfl rfl d_M_move_44 ?_
      refine lv_iload_n hx hb d_M_move_47 rfl (lv_at hl 1 rfl) ?_
      obtain ⟨v7, ev7, hi, h⟩ := kb_rd_some h
      refine kb_ald hx hb hw 10 9 rfl rfl hi ev7 d_M_move_48 ?_
      obtain ⟨rfl, rfl⟩ := kb_rt h
      exact kb_iret hx hb hr hw hlocks d_M_move_49
    · have h := kb_ip c h
      refine lv_aload_n hx hb d_M_move_34 rfl (lv_at hl 0 rfl) ?_
      refine kb_get (own := "PileLiftsModel") (ref := "PileLiftsModel") (C := R_M) (T := F_M) (N := 22) hx hb htw i_M hown hw 0 (wM_0 A G _) rfl 12 (by decide) (htw _ mM_17) rfl rfl d_M_move_35 ?_
      refine lv_iload_n hx hb d_M_move_38 rfl (lv_at hl 1 rfl) ?_
      obtain ⟨v8, ev8, hi, h⟩ := kb_rd_some h
      refine kb_ald hx hb hw 9 8 rfl rfl hi ev8 d_M_move_39 ?_
      refine lv_goto (tgt := 49) hx hb d_M_move_40 (by decide) ?_
      obtain ⟨rfl, rfl⟩ := kb_rt h
      exact kb_iret hx hb hr hw hlocks d_M_move_49
  · have h := kb_ip c h
    refine lv_iconst (v := 0) hx hb d_M_move_28 (by decide) ?_
    obtain ⟨rfl, rfl⟩ := kb_rt h
    exact kb_iret hx hb hr hw hlocks d_M_move_29
def h_M_replay_122 : Nat → Int32 → Int32 → (Nat → Nat → Int32) → Option (Int32 × (Nat → Nat → Int32))
  | 0, _, _, _ => none
  | n + 1, u2, u3, M => (if (M 0 3) ≤ u3 then some (u2, M) else kb_cl (f_M_isGone (0 : Int32) u3 M) (fun r7 M8 => (if r7 = (0 : Int32) then h_M_replay_122 n u2 (u3 + 1) M8 else h_M_replay_122 n (u2 + 1) (u3 + 1) M8)))
def h_M_replay_32 (k25 : Int32 → Int32 → (Nat → Nat → Int32) → Option (Int32 × (Nat → Nat → Int32))) : Nat → Int32 → Int32 → Int32 → (Nat → Nat → Int32) → Option (Int32 × (Nat → Nat → Int32))
  | 0, _, _, _, _ => none
  | n + 1, u1, u2, u3, M => kb_cl (f_M_topOf (0 : Int32) u3 M) (fun r9 M10 => kb_rd (M10 9) 40 u2 (fun v11 => (if r9 = v11 then kb_rd (M10 10) 40 u2 (fun v12 => (if v12 < (0 : Int32) then kb_rd (M10 6) 60 u3 (fun v13 => kb_wr M10 6 60 u3 (v13 - (1 : Int32)) (fun M14 => kb_rd (M14 7) 15 (0 : Int32) (fun v15 => kb_rd (M14 9) 40 u2 (fun v16 => kb_wr M14 7 15 (0 : Int32) (v15 ||| ((1 : Int32) <<< (v16 &&& 31))) (fun M17 => k25 u1 (u2 + 1) M17))))) else kb_rd (M10 10) 40 u2 (fun v18 => kb_cl (f_M_lift (0 : Int32) u3 v18 M10) (fun r19 M20 => k25 u1 (u2 + 1) M20)))) else h_M_replay_32 k25 n u1 u2 (u3 + 1) M10)))
def h_M_replay_25 : Nat → Int32 → Int32 → (Nat → Nat → Int32) → Option (Int32 × (Nat → Nat → Int32))
  | 0, _, _, _ => none
  | n + 1, u1, u2, M => (if u1 ≤ u2 then kb_cl (f_M_changed M) (fun r5 M6 => h_M_replay_122 kb_F (0 : Int32) (0 : Int32) M6) else h_M_replay_32 (fun y0 y1 N => h_M_replay_25 n y0 y1 N) kb_F u1 u2 (0 : Int32) M)
def f_M_replay (x1 : Int32) (M0 : Nat → Nat → Int32) : Option (Int32 × (Nat → Nat → Int32)) := kb_cl (f_M_in x1 (0 : Int32) (M0 0 18) M0) (fun r1 M2 => kb_cl (f_M_goes (M0 0 17) r1 (1 : Int32) M2) (fun r3 M4 => (if r3 = (0 : Int32) then some ((0 : Int32), M4) else h_M_replay_25 kb_F x1 (0 : Int32) M4)))
set_option maxHeartbeats 4000000 in
set_option maxRecDepth 100000 in
theorem c_M_replay (l : Launch) (D : va_G) (A : Nat → Nat) (G : Nat → ClassId) (x1 : Int32) (M0 : Nat → Nat → Int32) (r : Int32) (M' : Nat → Nat → Int32) (sz : Nat) (h : f_M_replay x1 M0 = some (r, M')) : kb_Ci l y_M_replay (Cond.code y_M_replay b_M_replay 4 (some .int) :: wsM) { frames := 3, cells := 0, slots := 0, locals := 68 } [.ref (A 0), .int x1] D kcl (tyM G) (wM A G M0) (wM A G M') nnM sz r := by
  refine Met.ofW (cc := b_M_replay) (maxL := 4) (ret := (some .int)) (by decide) rfl ?_
  intro p e s m args below meth c s₁ B hml hv
  obtain ⟨rfl, hpre⟩ := hv
  obtain ⟨hw, hN⟩ := kb_enter hpre
  have hx := B.exec
  have hb := B.bytes
  have hr := B.returns
  have hts := atoms_spec (ws := (Cond.code y_M_replay b_M_replay 4 (some .int) :: wsM)) B.pre
  have htw : ∀ w ∈ wsM, w.before ([.ref (A 0), .int x1] : List Value).toArray s = true := fun w h => hts w (List.mem_cons_of_mem _ h)
  have hown : s.vm.findClass "PileLiftsModel" = some m.cls := findClass_of_methodNamed B.named
  have hlocks := B.notSynchronized
  have loop_122 : ∀ (n122 : Nat) (u2 u3 : Int32) (M : Nat → Nat → Int32) (H : Heap) (locs : List Loc) (ls : Array Slot), h_M_replay_122 n122 u2 u3 M = some (r, M') → kb_K D kcl (tyM G) (wM A G M) s (va_A (wM A G M0) sz) H locs → lv_has ls 4 [(0, .ref (A 0)), (2, .int u2), (3, .int u3)] → W p l e (headSpec (Cond.code y_M_replay b_M_replay 4 (some .int) :: wsM) { frames := 3, cells := 0, slots := 0, locals := 68 }).room s m ([.ref (A 0), .int x1] : List Value).toArray below meth c H locs 0 0 (kb_Qi D kcl (tyM G) (wM A G M0) (wM A G M') sz r below ([.ref (A 0), .int x1] : List Value).toArray s) (F0 m 122 ls []) := by
    intro n122
    induction n122 with
    | zero =>
      intro u2 u3 M H locs ls h
      cases h
    | succ n122 ih =>
      intro u2 u3 M H locs ls h hw hl
      rw [h_M_replay_122] at h
      refine lv_iload_n hx hb d_M_replay_122 rfl (lv_at hl 2 rfl) ?_
      refine lv_aload_n hx hb d_M_replay_123 rfl (lv_at hl 0 rfl) ?_
      refine kb_get (own := "PileLiftsModel") (ref := "PileLiftsModel") (C := R_M) (T := F_M) (N := 22) hx hb htw i_M hown hw 0 (wM_0 A G _) rfl 3 (by decide) (htw _ mM_8) rfl rfl d_M_replay_124 ?_
      refine lv_icmp_ge (tgt := 148) hx hb d_M_replay_127 (by decide) (fun c => ?_) (fun c => ?_)
      · have h := kb_ip c h
        refine lv_iload_n hx hb d_M_replay_148 rfl (lv_at hl 1 rfl) ?_
        obtain ⟨rfl, rfl⟩ := kb_rt h
        exact kb_iret hx hb hr hw hlocks d_M_replay_149
      · have h := kb_in c h
        refine lv_aload_n hx hb d_M_replay_130 rfl (lv_at hl 0 rfl) ?_
        refine lv_iconst (v := 0) hx hb d_M_replay_131 (by decide) ?_
        refine lv_iload_n hx hb d_M_replay_132 rfl (lv_at hl 2 rfl) ?_
        obtain ⟨r7, M8, hc, h⟩ := kb_cl_some h
        refine kb_calli0 (va_runV (As := [.int (0 : Int32), .int u3]) (rest := []) ⟨hx, hb, hml, hown, htw⟩ (c_M_isGone l D A G (0 : Int32) u3 M _ _ H.size hc) ⟨(callB_of 2 htw (wsM_self mM_81) rfl rfl rfl (htw _ mM_0) (htw _ mM_79) q_M_isGone ⟨by show 0 + 1 ≤ 3; omega, by show 8 + (3 + 11) + 0 ≤ 68; omega⟩), htw _ mM_80, htw _ mM_153⟩ (kb_preV nnM_warm nnM_same hw hN 0 (wM_0 A G _) rfl) rfl rfl hl.1 rfl (lv_room (Nat.le_of_ble_eq_true rfl)) d_M_replay_133 ⟨Nat.zero_le _, Nat.zero_le _⟩) hw (fun H locs hw => ?_)
        refine lv_if_eq (tgt := 142) hx hb d_M_replay_136 (by decide) (fun c => ?_) (fun c => ?_)
        · have h := kb_ip c h
          refine lv_iinc (v := (u3 + 1)) (lv' := [(3, .int (u3 + 1)), (0, .ref (A 0)), (2, .int u2)]) hx hb d_M_replay_142 hl (k := 2) rfl rfl (by decide) rfl (fun ls hl => ?_)
          refine lv_goto (tgt := 122) hx hb d_M_replay_145 (by decide) ?_
          exact ih u2 (u3 + 1) M8 _ _ _ h hw (lv_sub hl [1, 2, 0] rfl)
        · have h := kb_in c h
          refine lv_iinc (v := (u2 + 1)) (lv' := [(2, .int (u2 + 1)), (0, .ref (A 0)), (3, .int u3)]) hx hb d_M_replay_139 hl (k := 1) rfl rfl (by decide) rfl (fun ls hl => ?_)
          refine lv_iinc (v := (u3 + 1)) (lv' := [(3, .int (u3 + 1)), (2, .int (u2 + 1)), (0, .ref (A 0))]) hx hb d_M_replay_142 hl (k := 2) rfl rfl (by decide) rfl (fun ls hl => ?_)
          refine lv_goto (tgt := 122) hx hb d_M_replay_145 (by decide) ?_
          exact ih (u2 + 1) (u3 + 1) M8 _ _ _ h hw (lv_sub hl [2, 1, 0] rfl)
  have loop_25 : ∀ (n25 : Nat) (u1 u2 : Int32) (M : Nat → Nat → Int32) (H : Heap) (locs : List Loc) (ls : Array Slot), h_M_replay_25 n25 u1 u2 M = some (r, M') → kb_K D kcl (tyM G) (wM A G M) s (va_A (wM A G M0) sz) H locs → lv_has ls 4 [(0, .ref (A 0)), (1, .int u1), (2, .int u2)] → W p l e (headSpec (Cond.code y_M_replay b_M_replay 4 (some .int) :: wsM) { frames := 3, cells := 0, slots := 0, locals := 68 }).room s m ([.ref (A 0), .int x1] : List Value).toArray below meth c H locs 0 0 (kb_Qi D kcl (tyM G) (wM A G M0) (wM A G M') sz r below ([.ref (A 0), .int x1] : List Value).toArray s) (F0 m 25 ls []) := by
    intro n25
    induction n25 with
    | zero =>
      intro u1 u2 M H locs ls h
      cases h
    | succ n25 ih =>
      have ih25 := ih
      have loop_32 : ∀ (n32 : Nat) (u1 u2 u3 : Int32) (M : Nat → Nat → Int32) (H : Heap) (locs : List Loc) (ls : Array Slot), h_M_replay_32 (fun y0 y1 N => h_M_replay_25 n25 y0 y1 N) n32 u1 u2 u3 M = some (r, M') → kb_K D kcl (tyM G) (wM A G M) s (va_A (wM A G M0) sz) H locs → lv_has ls 4 [(0, .ref (A 0)), (1, .int u1), (2, .int u2), (3, .int u3)] → W p l e (headSpec (Cond.code y_M_replay b_M_replay 4 (some .int) :: wsM) { frames := 3, cells := 0, slots := 0, locals := 68 }).room s m ([.ref (A 0), .int x1] : List Value).toArray below meth c H locs 0 0 (kb_Qi D kcl (tyM G) (wM A G M0) (wM A G M') sz r below ([.ref (A 0), .int x1] : List Value).toArray s) (F0 m 32 ls []) := by
        intro n32
        induction n32 with
        | zero =>
          intro u1 u2 u3 M H locs ls h
          cases h
        | succ n32 ih =>
          intro u1 u2 u3 M H locs ls h hw hl
          rw [h_M_replay_32] at h
          refine lv_aload_n hx hb d_M_replay_32 rfl (lv_at hl 0 rfl) ?_
          refine lv_iconst (v := 0) hx hb d_M_replay_33 (by decide) ?_
          refine lv_iload_n hx hb d_M_replay_34 rfl (lv_at hl 3 rfl) ?_
          obtain ⟨r9, M10, hc, h⟩ := kb_cl_some h
          refine kb_calli0 (va_runV (As := [.int (0 : Int32), .int u3]) (rest := []) ⟨hx, hb, hml, hown, htw⟩ (c_M_topOf l D A G (0 : Int32) u3 M _ _ H.size hc) ⟨(callB_of 2 htw (wsM_self mM_115) rfl rfl rfl (htw _ mM_0) (htw _ mM_113) q_M_topOf ⟨by show 1 + 1 ≤ 3; omega, by show 8 + (3 + 11) + 22 ≤ 68; omega⟩), htw _ mM_114, htw _ mM_161⟩ (kb_preV nnM_warm nnM_same hw hN 0 (wM_0 A G _) rfl) rfl rfl hl.1 rfl (lv_room (Nat.le_of_ble_eq_true rfl)) d_M_replay_35 ⟨Nat.zero_le _, Nat.zero_le _⟩) hw (fun H locs hw => ?_)
          refine lv_aload_n hx hb d_M_replay_38 rfl (lv_at hl 0 rfl) ?_
          refine kb_get (own := "PileLiftsModel") (ref := "PileLiftsModel") (C := R_M) (T := F_M) (N := 22) hx hb htw i_M hown hw 0 (wM_0 A G _) rfl 12 (by decide) (htw _ mM_17) rfl rfl d_M_replay_39 ?_
          refine lv_iload_n hx hb d_M_replay_42 rfl (lv_at hl 2 rfl) ?_
          obtain ⟨v11, ev11, hi, h⟩ := kb_rd_some h
          refine kb_ald hx hb hw 9 8 rfl rfl hi ev11 d_M_replay_43 ?_
          refine lv_icmp_eq (tgt := 53) hx hb d_M_replay_44 (by decide) (fun c => ?_) (fun c => ?_)
          · have h := kb_ip c h
            refine lv_aload_n hx hb d_M_replay_53 rfl (lv_at hl 0 rfl) ?_
            refine kb_get (own := "PileLiftsModel") (ref := "PileLiftsModel") (C := R_M) (T := F_M) (N := 22) hx hb htw i_M hown hw 0 (wM_0 A G _) rfl 13 (by decide) (htw _ mM_18) rfl rfl d_M_replay_54 ?_
            refine lv_iload_n hx hb d_M_replay_57 rfl (lv_at hl 2 rfl) ?_
            obtain ⟨v12, ev12, hi, h⟩ := kb_rd_some h
            refine kb_ald hx hb hw 10 9 rfl rfl hi ev12 d_M_replay_58 ?_
            refine lv_if_lt (tgt := 77) hx hb d_M_replay_59 (by decide) (fun c => ?_) (fun c => ?_)
            · have h := kb_ip c h
              refine lv_aload_n hx hb d_M_replay_77 rfl (lv_at hl 0 rfl) ?_
              refine kb_get (own := "PileLiftsModel") (ref := "PileLiftsModel") (C := R_M) (T := F_M) (N := 22) hx hb htw i_M hown hw 0 (wM_0 A G _) rfl 9 (by decide) (htw _ mM_14) rfl rfl d_M_replay_78 ?_
              refine lv_iload_n hx hb d_M_replay_81 rfl (lv_at hl 3 rfl) ?_
              refine lv_dup2_11 hx hb d_M_replay_82 rfl rfl ?_
              obtain ⟨v13, ev13, hi, h⟩ := kb_rd_some h
              refine kb_ald hx hb hw 6 5 rfl rfl hi ev13 d_M_replay_83 ?_
              refine lv_iconst (v := 1) hx hb d_M_replay_84 (by decide) ?_
              refine lv_isub hx hb d_M_replay_85 ?_
              obtain ⟨M14, eM14, hi, h⟩ := kb_wr_some h
              refine kb_ast (ws' := (wM A G M14)) hx hb hw 6 5 rfl rfl hi d_M_replay_86 (by rw [eM14]; rfl) (fun H locs hw => ?_)
              refine lv_aload_n hx hb d_M_replay_87 rfl (lv_at hl 0 rfl) ?_
              refine kb_get (own := "PileLiftsModel") (ref := "PileLiftsModel") (C := R_M) (T := F_M) (N := 22) hx hb htw i_M hown hw 0 (wM_0 A G _) rfl 10 (by decide) (htw _ mM_15) rfl rfl d_M_replay_88 ?_
              refine lv_iconst (v := 0) hx hb d_M_replay_91 (by decide) ?_
              refine lv_aload_n hx hb d_M_replay_92 rfl (lv_at hl 0 rfl) ?_
              refine kb_get (own := "PileLiftsModel") (ref := "PileLiftsModel") (C := R_M) (T := F_M) (N := 22) hx hb htw i_M hown hw 0 (wM_0 A G _) rfl 10 (by decide) (htw _ mM_15) rfl rfl d_M_replay_93 ?_
              refine lv_iconst (v := 0) hx hb d_M_replay_96 (by decide) ?_
              obtain ⟨v15, ev15, hi, h⟩ := kb_rd_some h
              refine kb_ald hx hb hw 7 6 rfl rfl hi ev15 d_M_replay_97 ?_
              refine lv_iconst (v := 1) hx hb d_M_replay_98 (by decide) ?_
              refine lv_aload_n hx hb d_M_replay_99 rfl (lv_at hl 0 rfl) ?_
              refine kb_get (own := "PileLiftsModel") (ref := "PileLiftsModel") (C := R_M) (T := F_M) (N := 22) hx hb htw i_M hown hw 0 (wM_0 A G _) rfl 12 (by decide) (htw _ mM_17) rfl rfl d_M_replay_100 ?_
              refine lv_iload_n hx hb d_M_replay_103 rfl (lv_at hl 2 rfl) ?_
              obtain ⟨v16, ev16, hi, h⟩ := kb_rd_some h
              refine kb_ald hx hb hw 9 8 rfl rfl hi ev16 d_M_replay_104 ?_
              refine lv_ishl hx hb d_M_replay_105 ?_
              refine lv_ior hx hb d_M_replay_106 ?_
              obtain ⟨M17, eM17, hi, h⟩ := kb_wr_some h
              refine kb_ast (ws' := (wM A G M17)) hx hb hw 7 6 rfl rfl hi d_M_replay_107 (by rw [eM17]; rfl) (fun H locs hw => ?_)
              refine lv_iinc (v := (u2 + 1)) (lv' := [(2, .int (u2 + 1)), (0, .ref (A 0)), (1, .int u1), (3, .int u3)]) hx hb d_M_replay_108 hl (k := 2) rfl rfl (by decide) rfl (fun ls hl => ?_)
              refine lv_goto (tgt := 25) hx hb d_M_replay_111 (by decide) ?_
              exact ih25 u1 (u2 + 1) M17 _ _ _ h hw (lv_sub hl [1, 2, 0] rfl)
            · have h := kb_in c h
              refine lv_aload_n hx hb d_M_replay_62 rfl (lv_at hl 0 rfl) ?_
              refine lv_iconst (v := 0) hx hb d_M_replay_63 (by decide) ?_
              refine lv_iload_n hx hb d_M_replay_64 rfl (lv_at hl 3 rfl) ?_
              refine lv_aload_n hx hb d_M_replay_65 rfl (lv_at hl 0 rfl) ?_
              refine kb_get (own := "PileLiftsModel") (ref := "PileLiftsModel") (C := R_M) (T := F_M) (N := 22) hx hb htw i_M hown hw 0 (wM_0 A G _) rfl 13 (by decide) (htw _ mM_18) rfl rfl d_M_replay_66 ?_
              refine lv_iload_n hx hb d_M_replay_69 rfl (lv_at hl 2 rfl) ?_
              obtain ⟨v18, ev18, hi, h⟩ := kb_rd_some h
              refine kb_ald hx hb hw 10 9 rfl rfl hi ev18 d_M_replay_70 ?_
              obtain ⟨r19, M20, hc, h⟩ := kb_cl_some h
              refine kb_callv0 (va_runV (As := [.int (0 : Int32), .int u3, .int v18]) (rest := []) ⟨hx, hb, hml, hown, htw⟩ (c_M_lift l D A G (0 : Int32) u3 v18 M10 _ _ H.size hc) ⟨(callB_of 3 htw (wsM_self mM_121) rfl rfl rfl (htw _ mM_0) (htw _ mM_119) q_M_lift ⟨by show 2 + 1 ≤ 3; omega, by show 8 + (5 + 11) + 44 ≤ 68; omega⟩), htw _ mM_120, htw _ mM_163⟩ (kb_preV nnM_warm nnM_same hw hN 0 (wM_0 A G _) rfl) rfl rfl hl.1 rfl (lv_room (Nat.le_of_ble_eq_true rfl)) d_M_replay_71 ⟨Nat.zero_le _, Nat.zero_le _⟩) hw (fun H locs hw => ?_)
              refine lv_goto (tgt := 108) hx hb d_M_replay_74 (by decide) ?_
              refine lv_iinc (v := (u2 + 1)) (lv' := [(2, .int (u2 + 1)), (0, .ref (A 0)), (1, .int u1), (3, .int u3)]) hx hb d_M_replay_108 hl (k := 2) rfl rfl (by decide) rfl (fun ls hl => ?_)
              refine lv_goto (tgt := 25) hx hb d_M_replay_111 (by decide) ?_
              exact ih25 u1 (u2 + 1) M20 _ _ _ h hw (lv_sub hl [1, 2, 0] rfl)
          · have h := kb_in c h
            refine lv_iinc (v := (u3 + 1)) (lv' := [(3, .int (u3 + 1)), (0, .ref (A 0)), (1, .int u1), (2, .int u2)]) hx hb d_M_replay_47 hl (k := 3) rfl rfl (by decide) rfl (fun ls hl => ?_)
            refine lv_goto (tgt := 32) hx hb d_M_replay_50 (by decide) ?_
            exact ih u1 u2 (u3 + 1) M10 _ _ _ h hw (lv_sub hl [1, 2, 3, 0] rfl)
      intro u1 u2 M H locs ls h hw hl
      rw [h_M_replay_25] at h
      refine lv_iload_n hx hb d_M_replay_25 rfl (lv_at hl 2 rfl) ?_
      refine lv_iload_n hx hb d_M_replay_26 rfl (lv_at hl 1 rfl) ?_
      refine lv_icmp_ge (tgt := 114) hx hb d_M_replay_27 (by decide) (fun c => ?_) (fun c => ?_)
      · have h := kb_ip c h
        refine lv_aload_n hx hb d_M_replay_114 rfl (lv_at hl 0 rfl) ?_
        obtain ⟨r5, M6, hc, h⟩ := kb_cl_some h
        refine kb_callv0 (va_runV (As := []) (rest := []) ⟨hx, hb, hml, hown, htw⟩ (c_M_changed l D A G M _ _ H.size hc) ⟨(callB_of 0 htw (wsM_self mM_63) rfl rfl rfl (htw _ mM_0) (htw _ mM_61) q_M_changed ⟨by show 0 + 1 ≤ 3; omega, by show 8 + (1 + 11) + 0 ≤ 68; omega⟩), htw _ mM_62, htw _ mM_150⟩ (kb_preV nnM_warm nnM_same hw hN 0 (wM_0 A G _) rfl) rfl rfl hl.1 rfl (lv_room (Nat.le_of_ble_eq_true rfl)) d_M_replay_115 ⟨Nat.zero_le _, Nat.zero_le _⟩) hw (fun H locs hw => ?_)
        refine lv_iconst (v := 0) hx hb d_M_replay_118 (by decide) ?_
        refine lv_istore_n (lv' := [(2, .int (0 : Int32)), (0, .ref (A 0)), (1, .int u1)]) hx hb d_M_replay_119 rfl hl (by decide) rfl (fun ls hl => ?_)
        refine lv_iconst (v := 0) hx hb d_M_replay_120 (by decide) ?_
        refine lv_istore_n (lv' := [(3, .int (0 : Int32)), (2, .int (0 : Int32)), (0, .ref (A 0)), (1, .int u1)]) hx hb d_M_replay_121 rfl hl (by decide) rfl (fun ls hl => ?_)
        exact loop_122 kb_F (0 : Int32) (0 : Int32) M6 _ _ _ h hw (lv_sub hl [2, 1, 0] rfl)
      · have h := kb_in c h
        refine lv_iconst (v := 0) hx hb d_M_replay_30 (by decide) ?_
        refine lv_istore_n (lv' := [(3, .int (0 : Int32)), (0, .ref (A 0)), (1, .int u1), (2, .int u2)]) hx hb d_M_replay_31 rfl hl (by decide) rfl (fun ls hl => ?_)
        exact loop_32 kb_F u1 u2 (0 : Int32) M _ _ _ h hw (lv_sub hl [1, 2, 3, 0] rfl)
  have hl := lv_entry ([.ref (A 0), .int x1]) (n := 4) (Nat.le_of_ble_eq_true rfl)
  rw [lg_entry_eq]
  generalize (lg_sl ([.ref (A 0), .int x1]) ++ List.replicate (4 - (lg_sl ([.ref (A 0), .int x1])).length) Slot.unset).toArray = ls at hl ⊢
  have hl : lv_has ls 4 [(0, .ref (A 0)), (1, .int x1)] := hl
  rw [f_M_replay] at h
  refine lv_aload_n hx hb d_M_replay_0 rfl (lv_at hl 0 rfl) ?_
  refine lv_aload_n hx hb d_M_replay_1 rfl (lv_at hl 0 rfl) ?_
  refine kb_get (own := "PileLiftsModel") (ref := "PileLiftsModel") (C := R_M) (T := F_M) (N := 22) hx hb htw i_M hown hw 0 (wM_0 A G _) rfl 17 (by decide) (htw _ mM_22) rfl rfl d_M_replay_2 ?_
  refine lv_iload_n hx hb d_M_replay_5 rfl (lv_at hl 1 rfl) ?_
  refine lv_iconst (v := 0) hx hb d_M_replay_6 (by decide) ?_
  refine lv_aload_n hx hb d_M_replay_7 rfl (lv_at hl 0 rfl) ?_
  refine kb_get (own := "PileLiftsModel") (ref := "PileLiftsModel") (C := R_M) (T := F_M) (N := 22) hx hb htw i_M hown hw 0 (wM_0 A G _) rfl 18 (by decide) (htw _ mM_23) rfl rfl d_M_replay_8 ?_
  obtain ⟨r1, M2, hc, h⟩ := kb_cl_some h
  refine kb_calli0 (va_runS (As := [.int x1, .int (0 : Int32), .int (M0 0 18)]) (rest := [.int (M0 0 17), .ref (A 0)]) ⟨hx, hb, hml, hown, htw⟩ (c_M_in l D A G x1 (0 : Int32) (M0 0 18) M0 _ _ s.heap.size hc) ⟨(callB_of 3 htw (wsM_self mM_57) rfl rfl rfl (htw _ mM_0) (htw _ mM_55) q_M_in ⟨by show 0 + 1 ≤ 3; omega, by show 8 + (3 + 11) + 0 ≤ 68; omega⟩), htw _ mM_56⟩ (kb_preS nnM_warm nnM_same hw hN ) rfl rfl hl.1 rfl (lv_room (Nat.le_of_ble_eq_true rfl)) d_M_replay_11 ⟨Nat.zero_le _, Nat.zero_le _⟩) hw (fun H locs hw => ?_)
  refine lv_iconst (v := 1) hx hb d_M_replay_14 (by decide) ?_
  obtain ⟨r3, M4, hc, h⟩ := kb_cl_some h
  refine kb_calli0 (va_runV (As := [.int (M0 0 17), .int r1, .int (1 : Int32)]) (rest := []) ⟨hx, hb, hml, hown, htw⟩ (c_M_goes l D A G (M0 0 17) r1 (1 : Int32) M2 _ _ H.size hc) ⟨(callB_of 3 htw (wsM_self mM_60) rfl rfl rfl (htw _ mM_0) (htw _ mM_58) q_M_goes ⟨by show 0 + 1 ≤ 3; omega, by show 8 + (4 + 11) + 0 ≤ 68; omega⟩), htw _ mM_59, htw _ mM_149⟩ (kb_preV nnM_warm nnM_same hw hN 0 (wM_0 A G _) rfl) rfl rfl hl.1 rfl (lv_room (Nat.le_of_ble_eq_true rfl)) d_M_replay_15 ⟨Nat.zero_le _, Nat.zero_le _⟩) hw (fun H locs hw => ?_)
  refine lv_if_ne (tgt := 23) hx hb d_M_replay_18 (by decide) (fun c => ?_) (fun c => ?_)
  · have h := kb_in c h
    refine lv_iconst (v := 0) hx hb d_M_replay_23 (by decide) ?_
    refine lv_istore_n (lv' := [(2, .int (0 : Int32)), (0, .ref (A 0)), (1, .int x1)]) hx hb d_M_replay_24 rfl hl (by decide) rfl (fun ls hl => ?_)
    exact loop_25 kb_F x1 (0 : Int32) M4 _ _ _ h hw (lv_sub hl [1, 2, 0] rfl)
  · have h := kb_ip c h
    refine lv_iconst (v := 0) hx hb d_M_replay_21 (by decide) ?_
    obtain ⟨rfl, rfl⟩ := kb_rt h
    exact kb_iret hx hb hr hw hlocks d_M_replay_22
def h_M_at_70 (k59 : Int32 → Int32 → Int32 → (Nat → Nat → Int32) → Option (Int32 × (Nat → Nat → Int32))) : Nat → Int32 → Int32 → Int32 → Int32 → (Nat → Nat → Int32) → Option (Int32 × (Nat → Nat → Int32))
  | 0, _, _, _, _, _ => none
  | n + 1, u1, u2, u3, u4, M => kb_rd (M 6) 60 u3 (fun v5 => (if v5 ≤ u4 then k59 u1 u2 (u3 + 1) M else kb_cl (f_M_cell (0 : Int32) u3 u4 M) (fun r6 M7 => kb_rd (M7 5) 300 r6 (fun v8 => (if v8 = u1 then (if u2 = (0 : Int32) then some (u3, M7) else (if u2 = (1 : Int32) then some (u4, M7) else kb_cl (f_M_blocksOn (0 : Int32) u3 u4 u1 M7) (fun r9 M10 => (if r9 = (0 : Int32) then some ((0 : Int32), M10) else some ((1 : Int32), M10))))) else h_M_at_70 k59 n u1 u2 u3 (u4 + 1) M7)))))
def h_M_at_59 : Nat → Int32 → Int32 → Int32 → (Nat → Nat → Int32) → Option (Int32 × (Nat → Nat → Int32))
  | 0, _, _, _, _ => none
  | n + 1, u1, u2, u3, M => (if (M 0 1) ≤ u3 then (if u2 = (2 : Int32) then some ((0 : Int32), M) else some ((-1 : Int32), M)) else h_M_at_70 (fun y0 y1 y2 N => h_M_at_59 n y0 y1 y2 N) kb_F u1 u2 u3 (0 : Int32) M)
def h_M_at_23 (u1 u2 w0 : Int32) (M : Nat → Nat → Int32) : Option (Int32 × (Nat → Nat → Int32)) := kb_cl (f_M_goes w0 (1 : Int32) (1 : Int32) M) (fun r3 M4 => (if r3 = (0 : Int32) then some ((0 : Int32), M4) else (if u2 = (3 : Int32) then kb_rd (M4 3) 10 u1 (fun v12 => some (v12, M4)) else (if u2 = (4 : Int32) then kb_rd (M4 4) 10 u1 (fun v11 => some (v11, M4)) else h_M_at_59 kb_F u1 u2 (0 : Int32) M4))))
def h_M_at_22 (u1 u2 : Int32) (M : Nat → Nat → Int32) : Option (Int32 × (Nat → Nat → Int32)) := h_M_at_23 u1 u2 (0 : Int32) M
def f_M_at (x1 x2 : Int32) (M0 : Nat → Nat → Int32) : Option (Int32 × (Nat → Nat → Int32)) := kb_cl (f_M_isPiece x1 M0) (fun r1 M2 => (if r1 = (0 : Int32) then h_M_at_22 x1 x2 M2 else kb_cl (f_M_in x2 (0 : Int32) (4 : Int32) M2) (fun r13 M14 => (if r13 = (0 : Int32) then h_M_at_22 x1 x2 M14 else h_M_at_23 x1 x2 (1 : Int32) M14))))
set_option maxHeartbeats 4000000 in
set_option maxRecDepth 100000 in
theorem c_M_at (l : Launch) (D : va_G) (A : Nat → Nat) (G : Nat → ClassId) (x1 x2 : Int32) (M0 : Nat → Nat → Int32) (r : Int32) (M' : Nat → Nat → Int32) (sz : Nat) (h : f_M_at x1 x2 M0 = some (r, M')) : kb_Ci l y_M_at (Cond.code y_M_at b_M_at 5 (some .int) :: wsM) { frames := 2, cells := 0, slots := 0, locals := 47 } [.ref (A 0), .int x1, .int x2] D kcl (tyM G) (wM A G M0) (wM A G M') nnM sz r := by
  refine Met.ofW (cc := b_M_at) (maxL := 5) (ret := (some .int)) (by decide) rfl ?_
  intro p e s m args below meth c s₁ B hml hv
  obtain ⟨rfl, hpre⟩ := hv
  obtain ⟨hw, hN⟩ := kb_enter hpre
  have hx := B.exec
  have hb := B.bytes
  have hr := B.returns
  have hts := atoms_spec (ws := (Cond.code y_M_at b_M_at 5 (some .int) :: wsM)) B.pre
  have htw : ∀ w ∈ wsM, w.before ([.ref (A 0), .int x1, .int x2] : List Value).toArray s = true := fun w h => hts w (List.mem_cons_of_mem _ h)
  have hown : s.vm.findClass "PileLiftsModel" = some m.cls := findClass_of_methodNamed B.named
  have hlocks := B.notSynchronized
  have loop_59 : ∀ (n59 : Nat) (u1 u2 u3 : Int32) (M : Nat → Nat → Int32) (H : Heap) (locs : List Loc) (ls : Array Slot), h_M_at_59 n59 u1 u2 u3 M = some (r, M') → kb_K D kcl (tyM G) (wM A G M) s (va_A (wM A G M0) sz) H locs → lv_has ls 5 [(0, .ref (A 0)), (1, .int u1), (2, .int u2), (3, .int u3)] → W p l e (headSpec (Cond.code y_M_at b_M_at 5 (some .int) :: wsM) { frames := 2, cells := 0, slots := 0, locals := 47 }).room s m ([.ref (A 0), .int x1, .int x2] : List Value).toArray below meth c H locs 0 0 (kb_Qi D kcl (tyM G) (wM A G M0) (wM A G M') sz r below ([.ref (A 0), .int x1, .int x2] : List Value).toArray s) (F0 m 59 ls []) := by
    intro n59
    induction n59 with
    | zero =>
      intro u1 u2 u3 M H locs ls h
      cases h
    | succ n59 ih =>
      have ih59 := ih
      have loop_70 : ∀ (n70 : Nat) (u1 u2 u3 u4 : Int32) (M : Nat → Nat → Int32) (H : Heap) (locs : List Loc) (ls : Array Slot), h_M_at_70 (fun y0 y1 y2 N => h_M_at_59 n59 y0 y1 y2 N) n70 u1 u2 u3 u4 M = some (r, M') → kb_K D kcl (tyM G) (wM A G M) s (va_A (wM A G M0) sz) H locs → lv_has ls 5 [(0, .ref (A 0)), (1, .int u1), (2, .int u2), (3, .int u3), (4, .int u4)] → W p l e (headSpec (Cond.code y_M_at b_M_at 5 (some .int) :: wsM) { frames := 2, cells := 0, slots := 0, locals := 47 }).room s m ([.ref (A 0), .int x1, .int x2] : List Value).toArray below meth c H locs 0 0 (kb_Qi D kcl (tyM G) (wM A G M0) (wM A G M') sz r below ([.ref (A 0), .int x1, .int x2] : List Value).toArray s) (F0 m 70 ls []) := by
        intro n70
        induction n70 with
        | zero =>
          intro u1 u2 u3 u4 M H locs ls h
          cases h
        | succ n70 ih =>
          intro u1 u2 u3 u4 M H locs ls h hw hl
          rw [h_M_at_70] at h
          refine lv_iload hx hb d_M_at_70 (lv_at hl 4 rfl) ?_
          refine lv_aload_n hx hb d_M_at_72 rfl (lv_at hl 0 rfl) ?_
          refine kb_get (own := "PileLiftsModel") (ref := "PileLiftsModel") (C := R_M) (T := F_M) (N := 22) hx hb htw i_M hown hw 0 (wM_0 A G _) rfl 9 (by decide) (htw _ mM_14) rfl rfl d_M_at_73 ?_
          refine lv_iload_n hx hb d_M_at_76 rfl (lv_at hl 3 rfl) ?_
          obtain ⟨v5, ev5, hi, h⟩ := kb_rd_some h
          refine kb_ald hx hb hw 6 5 rfl rfl hi ev5 d_M_at_77 ?_
          refine lv_icmp_ge (tgt := 139) hx hb d_M_at_78 (by decide) (fun c => ?_) (fun c => ?_)
          · have h := kb_ip c h
            refine lv_iinc (v := (u3 + 1)) (lv' := [(3, .int (u3 + 1)), (0, .ref (A 0)), (1, .int u1), (2, .int u2), (4, .int u4)]) hx hb d_M_at_139 hl (k := 3) rfl rfl (by decide) rfl (fun ls hl => ?_)
            refine lv_goto (tgt := 59) hx hb d_M_at_142 (by decide) ?_
            exact ih59 u1 u2 (u3 + 1) M _ _ _ h hw (lv_sub hl [1, 2, 3, 0] rfl)
          · have h := kb_in c h
            refine lv_aload_n hx hb d_M_at_81 rfl (lv_at hl 0 rfl) ?_
            refine kb_get (own := "PileLiftsModel") (ref := "PileLiftsModel") (C := R_M) (T := F_M) (N := 22) hx hb htw i_M hown hw 0 (wM_0 A G _) rfl 8 (by decide) (htw _ mM_13) rfl rfl d_M_at_82 ?_
            refine lv_iconst (v := 0) hx hb d_M_at_85 (by decide) ?_
            refine lv_iload_n hx hb d_M_at_86 rfl (lv_at hl 3 rfl) ?_
            refine lv_iload hx hb d_M_at_87 (lv_at hl 4 rfl) ?_
            obtain ⟨r6, M7, hc, h⟩ := kb_cl_some h
            refine kb_calli0 (va_runS (As := [.int (0 : Int32), .int u3, .int u4]) (rest := [.ref (A 5)]) ⟨hx, hb, hml, hown, htw⟩ (c_M_cell l D A G (0 : Int32) u3 u4 M _ _ H.size hc) ⟨(callB_of 3 htw (wsM_self mM_72) rfl rfl rfl (htw _ mM_0) (htw _ mM_70) q_M_cell ⟨by show 0 + 1 ≤ 2; omega, by show 8 + (3 + 11) + 0 ≤ 47; omega⟩), htw _ mM_71⟩ (kb_preS nnM_warm nnM_same hw hN ) rfl rfl hl.1 rfl (lv_room (Nat.le_of_ble_eq_true rfl)) d_M_at_89 ⟨Nat.zero_le _, Nat.zero_le _⟩) hw (fun H locs hw => ?_)
            obtain ⟨v8, ev8, hi, h⟩ := kb_rd_some h
            refine kb_ald hx hb hw 5 4 rfl rfl hi ev8 d_M_at_92 ?_
            refine lv_iload_n hx hb d_M_at_93 rfl (lv_at hl 1 rfl) ?_
            refine lv_icmp_ne (tgt := 133) hx hb d_M_at_94 (by decide) (fun c => ?_) (fun c => ?_)
            · have h := kb_in c h
              refine lv_iinc (v := (u4 + 1)) (lv' := [(4, .int (u4 + 1)), (0, .ref (A 0)), (1, .int u1), (2, .int u2), (3, .int u3)]) hx hb d_M_at_133 hl (k := 4) rfl rfl (by decide) rfl (fun ls hl => ?_)
              refine lv_goto (tgt := 70) hx hb d_M_at_136 (by decide) ?_
              exact ih u1 u2 u3 (u4 + 1) M7 _ _ _ h hw (lv_sub hl [1, 2, 3, 4, 0] rfl)
            · have h := kb_ip c h
              refine lv_iload_n hx hb d_M_at_97 rfl (lv_at hl 2 rfl) ?_
              refine lv_if_ne (tgt := 105) hx hb d_M_at_98 (by decide) (fun c => ?_) (fun c => ?_)
              · have h := kb_in c h
                refine lv_iload_n hx hb d_M_at_105 rfl (lv_at hl 2 rfl) ?_
                refine lv_iconst (v := 1) hx hb d_M_at_106 (by decide) ?_
                refine lv_icmp_ne (tgt := 115) hx hb d_M_at_107 (by decide) (fun c => ?_) (fun c => ?_)
                · have h := kb_in c h
                  refine lv_aload_n hx hb d_M_at_115 rfl (lv_at hl 0 rfl) ?_
                  refine lv_iconst (v := 0) hx hb d_M_at_116 (by decide) ?_
                  refine lv_iload_n hx hb d_M_at_117 rfl (lv_at hl 3 rfl) ?_
                  refine lv_iload hx hb d_M_at_118 (lv_at hl 4 rfl) ?_
                  refine lv_iload_n hx hb d_M_at_120 rfl (lv_at hl 1 rfl) ?_
                  obtain ⟨r9, M10, hc, h⟩ := kb_cl_some h
                  refine kb_calli0 (va_runV (As := [.int (0 : Int32), .int u3, .int u4, .int u1]) (rest := []) ⟨hx, hb, hml, hown, htw⟩ (c_M_blocksOn l D A G (0 : Int32) u3 u4 u1 M7 _ _ H.size hc) ⟨(callB_of 4 htw (wsM_self mM_93) rfl rfl rfl (htw _ mM_0) (htw _ mM_91) q_M_blocksOn ⟨by show 1 + 1 ≤ 2; omega, by show 8 + (6 + 11) + 22 ≤ 47; omega⟩), htw _ mM_92, htw _ mM_155⟩ (kb_preV nnM_warm nnM_same hw hN 0 (wM_0 A G _) rfl) rfl rfl hl.1 rfl (lv_room (Nat.le_of_ble_eq_true rfl)) d_M_at_121 ⟨Nat.zero_le _, Nat.zero_le _⟩) hw (fun H locs hw => ?_)
                  refine lv_if_eq (tgt := 131) hx hb d_M_at_124 (by decide) (fun c => ?_) (fun c => ?_)
                  · have h := kb_ip c h
                    refine lv_iconst (v := 0) hx hb d_M_at_131 (by decide) ?_
                    obtain ⟨rfl, rfl⟩ := kb_rt h
                    exact kb_iret hx hb hr hw hlocks d_M_at_132
                  · have h := kb_in c h
                    refine lv_iconst (v := 1) hx hb d_M_at_127 (by decide) ?_
                    refine lv_goto (tgt := 132) hx hb d_M_at_128 (by decide) ?_
                    obtain ⟨rfl, rfl⟩ := kb_rt h
                    exact kb_iret hx hb hr hw hlocks d_M_at_132
                · have h := kb_ip c h
                  refine lv_iload hx hb d_M_at_110 (lv_at hl 4 rfl) ?_
                  refine lv_goto (tgt := 132) hx hb d_M_at_112 (by decide) ?_
                  obtain ⟨rfl, rfl⟩ := kb_rt h
                  exact kb_iret hx hb hr hw hlocks d_M_at_132
              · have h := kb_ip c h
                refine lv_iload_n hx hb d_M_at_101 rfl (lv_at hl 3 rfl) ?_
                refine lv_goto (tgt := 132) hx hb d_M_at_102 (by decide) ?_
                obtain ⟨rfl, rfl⟩ := kb_rt h
                exact kb_iret hx hb hr hw hlocks d_M_at_132
      intro u1 u2 u3 M H locs ls h hw hl
      rw [h_M_at_59] at h
      refine lv_iload_n hx hb d_M_at_59 rfl (lv_at hl 3 rfl) ?_
      refine lv_aload_n hx hb d_M_at_60 rfl (lv_at hl 0 rfl) ?_
      refine kb_get (own := "PileLiftsModel") (ref := "PileLiftsModel") (C := R_M) (T := F_M) (N := 22) hx hb htw i_M hown hw 0 (wM_0 A G _) rfl 1 (by decide) (htw _ mM_6) rfl rfl d_M_at_61 ?_
      refine lv_icmp_ge (tgt := 145) hx hb d_M_at_64 (by decide) (fun c => ?_) (fun c => ?_)
      · have h := kb_ip c h
        refine lv_iload_n hx hb d_M_at_145 rfl (lv_at hl 2 rfl) ?_
        refine lv_iconst (v := 2) hx hb d_M_at_146 (by decide) ?_
        refine lv_icmp_ne (tgt := 154) hx hb d_M_at_147 (by decide) (fun c => ?_) (fun c => ?_)
        · have h := kb_in c h
          refine lv_iconst (v := -1) hx hb d_M_at_154 (by decide) ?_
          obtain ⟨rfl, rfl⟩ := kb_rt h
          exact kb_iret hx hb hr hw hlocks d_M_at_155
        · have h := kb_ip c h
          refine lv_iconst (v := 0) hx hb d_M_at_150 (by decide) ?_
          refine lv_goto (tgt := 155) hx hb d_M_at_151 (by decide) ?_
          obtain ⟨rfl, rfl⟩ := kb_rt h
          exact kb_iret hx hb hr hw hlocks d_M_at_155
      · have h := kb_in c h
        refine lv_iconst (v := 0) hx hb d_M_at_67 (by decide) ?_
        refine lv_istore (lv' := [(4, .int (0 : Int32)), (0, .ref (A 0)), (1, .int u1), (2, .int u2), (3, .int u3)]) hx hb d_M_at_68 hl (by decide) rfl (fun ls hl => ?_)
        exact loop_70 kb_F u1 u2 u3 (0 : Int32) M _ _ _ h hw (lv_sub hl [1, 2, 3, 4, 0] rfl)
  have loop_23 : ∀ (u1 u2 w0 : Int32) (M : Nat → Nat → Int32) (H : Heap) (locs : List Loc) (ls : Array Slot), h_M_at_23 u1 u2 w0 M = some (r, M') → kb_K D kcl (tyM G) (wM A G M) s (va_A (wM A G M0) sz) H locs → lv_has ls 5 [(0, .ref (A 0)), (1, .int u1), (2, .int u2)] → W p l e (headSpec (Cond.code y_M_at b_M_at 5 (some .int) :: wsM) { frames := 2, cells := 0, slots := 0, locals := 47 }).room s m ([.ref (A 0), .int x1, .int x2] : List Value).toArray below meth c H locs 0 0 (kb_Qi D kcl (tyM G) (wM A G M0) (wM A G M') sz r below ([.ref (A 0), .int x1, .int x2] : List Value).toArray s) (F0 m 23 ls [.int w0, .ref (A 0)]) := by
    intro u1 u2 w0 M H locs ls h hw hl
    rw [h_M_at_23] at h
    refine lv_iconst (v := 1) hx hb d_M_at_23 (by decide) ?_
    refine lv_iconst (v := 1) hx hb d_M_at_24 (by decide) ?_
    obtain ⟨r3, M4, hc, h⟩ := kb_cl_some h
    refine kb_calli0 (va_runV (As := [.int w0, .int (1 : Int32), .int (1 : Int32)]) (rest := []) ⟨hx, hb, hml, hown, htw⟩ (c_M_goes l D A G w0 (1 : Int32) (1 : Int32) M _ _ H.size hc) ⟨(callB_of 3 htw (wsM_self mM_60) rfl rfl rfl (htw _ mM_0) (htw _ mM_58) q_M_goes ⟨by show 0 + 1 ≤ 2; omega, by show 8 + (4 + 11) + 0 ≤ 47; omega⟩), htw _ mM_59, htw _ mM_149⟩ (kb_preV nnM_warm nnM_same hw hN 0 (wM_0 A G _) rfl) rfl rfl hl.1 rfl (lv_room (Nat.le_of_ble_eq_true rfl)) d_M_at_25 ⟨Nat.zero_le _, Nat.zero_le _⟩) hw (fun H locs hw => ?_)
    refine lv_if_ne (tgt := 33) hx hb d_M_at_28 (by decide) (fun c => ?_) (fun c => ?_)
    · have h := kb_in c h
      refine lv_iload_n hx hb d_M_at_33 rfl (lv_at hl 2 rfl) ?_
      refine lv_iconst (v := 3) hx hb d_M_at_34 (by decide) ?_
      refine lv_icmp_ne (tgt := 45) hx hb d_M_at_35 (by decide) (fun c => ?_) (fun c => ?_)
      · have h := kb_in c h
        refine lv_iload_n hx hb d_M_at_45 rfl (lv_at hl 2 rfl) ?_
        refine lv_iconst (v := 4) hx hb d_M_at_46 (by decide) ?_
        refine lv_icmp_ne (tgt := 57) hx hb d_M_at_47 (by decide) (fun c => ?_) (fun c => ?_)
        · have h := kb_in c h
          refine lv_iconst (v := 0) hx hb d_M_at_57 (by decide) ?_
          refine lv_istore_n (lv' := [(3, .int (0 : Int32)), (0, .ref (A 0)), (1, .int u1), (2, .int u2)]) hx hb d_M_at_58 rfl hl (by decide) rfl (fun ls hl => ?_)
          exact loop_59 kb_F u1 u2 (0 : Int32) M4 _ _ _ h hw (lv_sub hl [1, 2, 3, 0] rfl)
        · have h := kb_ip c h
          refine lv_aload_n hx hb d_M_at_50 rfl (lv_at hl 0 rfl) ?_
          refine kb_get (own := "PileLiftsModel") (ref := "PileLiftsModel") (C := R_M) (T := F_M) (N := 22) hx hb htw i_M hown hw 0 (wM_0 A G _) rfl 7 (by decide) (htw _ mM_12) rfl rfl d_M_at_51 ?_
          refine lv_iload_n hx hb d_M_at_54 rfl (lv_at hl 1 rfl) ?_
          obtain ⟨v11, ev11, hi, h⟩ := kb_rd_some h
          refine kb_ald hx hb hw 4 3 rfl rfl hi ev11 d_M_at_55 ?_
          obtain ⟨rfl, rfl⟩ := kb_rt h
          exact kb_iret hx hb hr hw hlocks d_M_at_56
      · have h := kb_ip c h
        refine lv_aload_n hx hb d_M_at_38 rfl (lv_at hl 0 rfl) ?_
        refine kb_get (own := "PileLiftsModel") (ref := "PileLiftsModel") (C := R_M) (T := F_M) (N := 22) hx hb htw i_M hown hw 0 (wM_0 A G _) rfl 6 (by decide) (htw _ mM_11) rfl rfl d_M_at_39 ?_
        refine lv_iload_n hx hb d_M_at_42 rfl (lv_at hl 1 rfl) ?_
        obtain ⟨v12, ev12, hi, h⟩ := kb_rd_some h
        refine kb_ald hx hb hw 3 2 rfl rfl hi ev12 d_M_at_43 ?_
        obtain ⟨rfl, rfl⟩ := kb_rt h
        exact kb_iret hx hb hr hw hlocks d_M_at_44
    · have h := kb_ip c h
      refine lv_iconst (v := 0) hx hb d_M_at_31 (by decide) ?_
      obtain ⟨rfl, rfl⟩ := kb_rt h
      exact kb_iret hx hb hr hw hlocks d_M_at_32
  have loop_22 : ∀ (u1 u2 : Int32) (M : Nat → Nat → Int32) (H : Heap) (locs : List Loc) (ls : Array Slot), h_M_at_22 u1 u2 M = some (r, M') → kb_K D kcl (tyM G) (wM A G M) s (va_A (wM A G M0) sz) H locs → lv_has ls 5 [(0, .ref (A 0)), (1, .int u1), (2, .int u2)] → W p l e (headSpec (Cond.code y_M_at b_M_at 5 (some .int) :: wsM) { frames := 2, cells := 0, slots := 0, locals := 47 }).room s m ([.ref (A 0), .int x1, .int x2] : List Value).toArray below meth c H locs 0 0 (kb_Qi D kcl (tyM G) (wM A G M0) (wM A G M') sz r below ([.ref (A 0), .int x1, .int x2] : List Value).toArray s) (F0 m 22 ls [.ref (A 0)]) := by
    intro u1 u2 M H locs ls h hw hl
    rw [h_M_at_22] at h
    refine lv_iconst (v := 0) hx hb d_M_at_22 (by decide) ?_
    exact loop_23 u1 u2 (0 : Int32) M _ _ _ h hw (lv_sub hl [0, 1, 2] rfl)
  have hl := lv_entry ([.ref (A 0), .int x1, .int x2]) (n := 5) (Nat.le_of_ble_eq_true rfl)
  rw [lg_entry_eq]
  generalize (lg_sl ([.ref (A 0), .int x1, .int x2]) ++ List.replicate (5 - (lg_sl ([.ref (A 0), .int x1, .int x2])).length) Slot.unset).toArray = ls at hl ⊢
  have hl : lv_has ls 5 [(0, .ref (A 0)), (1, .int x1), (2, .int x2)] := hl
  rw [f_M_at] at h
  refine lv_aload_n hx hb d_M_at_0 rfl (lv_at hl 0 rfl) ?_
  refine lv_aload_n hx hb d_M_at_1 rfl (lv_at hl 0 rfl) ?_
  refine lv_iload_n hx hb d_M_at_2 rfl (lv_at hl 1 rfl) ?_
  obtain ⟨r1, M2, hc, h⟩ := kb_cl_some h
  refine kb_calli0 (va_runV (As := [.int x1]) (rest := [.ref (A 0)]) ⟨hx, hb, hml, hown, htw⟩ (c_M_isPiece l D A G x1 M0 _ _ s.heap.size hc) ⟨(callB_of 1 htw (wsM_self mM_78) rfl rfl rfl (htw _ mM_0) (htw _ mM_76) q_M_isPiece ⟨by show 1 + 1 ≤ 2; omega, by show 8 + (2 + 11) + 22 ≤ 47; omega⟩), htw _ mM_77, htw _ mM_152⟩ (kb_preV nnM_warm nnM_same hw hN 0 (wM_0 A G _) rfl) rfl rfl hl.1 rfl (lv_room (Nat.le_of_ble_eq_true rfl)) d_M_at_3 ⟨Nat.zero_le _, Nat.zero_le _⟩) hw (fun H locs hw => ?_)
  refine lv_if_eq (tgt := 22) hx hb d_M_at_6 (by decide) (fun c => ?_) (fun c => ?_)
  · have h := kb_ip c h
    exact loop_22 x1 x2 M2 _ _ _ h hw (lv_sub hl [0, 1, 2] rfl)
  · have h := kb_in c h
    refine lv_iload_n hx hb d_M_at_9 rfl (lv_at hl 2 rfl) ?_
    refine lv_iconst (v := 0) hx hb d_M_at_10 (by decide) ?_
    refine lv_iconst (v := 4) hx hb d_M_at_11 (by decide) ?_
    obtain ⟨r13, M14, hc, h⟩ := kb_cl_some h
    refine kb_calli0 (va_runS (As := [.int x2, .int (0 : Int32), .int (4 : Int32)]) (rest := [.ref (A 0)]) ⟨hx, hb, hml, hown, htw⟩ (c_M_in l D A G x2 (0 : Int32) (4 : Int32) M2 _ _ H.size hc) ⟨(callB_of 3 htw (wsM_self mM_57) rfl rfl rfl (htw _ mM_0) (htw _ mM_55) q_M_in ⟨by show 0 + 1 ≤ 2; omega, by show 8 + (3 + 11) + 0 ≤ 47; omega⟩), htw _ mM_56⟩ (kb_preS nnM_warm nnM_same hw hN ) rfl rfl hl.1 rfl (lv_room (Nat.le_of_ble_eq_true rfl)) d_M_at_12 ⟨Nat.zero_le _, Nat.zero_le _⟩) hw (fun H locs hw => ?_)
    refine lv_if_eq (tgt := 22) hx hb d_M_at_15 (by decide) (fun c => ?_) (fun c => ?_)
    · have h := kb_ip c h
      exact loop_22 x1 x2 M14 _ _ _ h hw (lv_sub hl [0, 1, 2] rfl)
    · have h := kb_in c h
      refine lv_iconst (v := 1) hx hb d_M_at_18 (by decide) ?_
      refine lv_goto (tgt := 23) hx hb d_M_at_19 (by decide) ?_
      exact loop_23 x1 x2 (1 : Int32) M14 _ _ _ h hw (lv_sub hl [0, 1, 2] rfl)
def h_M_tidies_44 (k2 : Int32 → (Nat → Nat → Int32) → Option (Int32 × (Nat → Nat → Int32))) : Nat → Int32 → Int32 → Int32 → (Nat → Nat → Int32) → Option (Int32 × (Nat → Nat → Int32))
  | 0, _, _, _, _ => none
  | n + 1, u1, u2, u3, M => (if (M 0 1) ≤ u3 then k2 (u1 + 1) M else (if u3 = u1 then h_M_tidies_44 k2 n u1 u2 (u3 + 1) M else kb_rd (M 2) 10 u2 (fun v6 => kb_cl (f_M_takes (0 : Int32) u3 v6 M) (fun r7 M8 => (if r7 = (0 : Int32) then h_M_tidies_44 k2 n u1 u2 (u3 + 1) M8 else kb_rd (M8 6) 60 u3 (fun v9 => kb_cl (f_M_blocksOn (0 : Int32) u3 v9 u2 M8) (fun r10 M11 => (if r10 = (0 : Int32) then kb_cl (f_M_lift (0 : Int32) u1 u3 M11) (fun r12 M13 => some ((1 : Int32), M13)) else h_M_tidies_44 k2 n u1 u2 (u3 + 1) M11))))))))
def h_M_tidies_2 : Nat → Int32 → (Nat → Nat → Int32) → Option (Int32 × (Nat → Nat → Int32))
  | 0, _, _ => none
  | n + 1, u1, M => (if (M 0 1) ≤ u1 then some ((0 : Int32), M) else kb_cl (f_M_topOf (0 : Int32) u1 M) (fun r1 M2 => (if r1 < (0 : Int32) then h_M_tidies_2 n (u1 + 1) M2 else kb_rd (M2 6) 60 u1 (fun v3 => kb_cl (f_M_blocksOn (0 : Int32) u1 (v3 - (1 : Int32)) r1 M2) (fun r4 M5 => (if r4 = (0 : Int32) then h_M_tidies_2 n (u1 + 1) M5 else h_M_tidies_44 (fun y0 N => h_M_tidies_2 n y0 N) kb_F u1 r1 (0 : Int32) M5))))))
def f_M_tidies (M0 : Nat → Nat → Int32) : Option (Int32 × (Nat → Nat → Int32)) := h_M_tidies_2 kb_F (0 : Int32) M0
set_option maxHeartbeats 4000000 in
set_option maxRecDepth 100000 in
theorem c_M_tidies (l : Launch) (D : va_G) (A : Nat → Nat) (G : Nat → ClassId) (M0 : Nat → Nat → Int32) (r : Int32) (M' : Nat → Nat → Int32) (sz : Nat) (h : f_M_tidies M0 = some (r, M')) : kb_Ci l y_M_tidies (Cond.code y_M_tidies b_M_tidies 4 (some .boolean) :: wsM) { frames := 3, cells := 0, slots := 0, locals := 68 } [.ref (A 0)] D kcl (tyM G) (wM A G M0) (wM A G M') nnM sz r := by
  refine Met.ofW (cc := b_M_tidies) (maxL := 4) (ret := (some .boolean)) (by decide) rfl ?_
  intro p e s m args below meth c s₁ B hml hv
  obtain ⟨rfl, hpre⟩ := hv
  obtain ⟨hw, hN⟩ := kb_enter hpre
  have hx := B.exec
  have hb := B.bytes
  have hr := B.returns
  have hts := atoms_spec (ws := (Cond.code y_M_tidies b_M_tidies 4 (some .boolean) :: wsM)) B.pre
  have htw : ∀ w ∈ wsM, w.before ([.ref (A 0)] : List Value).toArray s = true := fun w h => hts w (List.mem_cons_of_mem _ h)
  have hown : s.vm.findClass "PileLiftsModel" = some m.cls := findClass_of_methodNamed B.named
  have hlocks := B.notSynchronized
  have loop_2 : ∀ (n2 : Nat) (u1 : Int32) (M : Nat → Nat → Int32) (H : Heap) (locs : List Loc) (ls : Array Slot), h_M_tidies_2 n2 u1 M = some (r, M') → kb_K D kcl (tyM G) (wM A G M) s (va_A (wM A G M0) sz) H locs → lv_has ls 4 [(0, .ref (A 0)), (1, .int u1)] → W p l e (headSpec (Cond.code y_M_tidies b_M_tidies 4 (some .boolean) :: wsM) { frames := 3, cells := 0, slots := 0, locals := 68 }).room s m ([.ref (A 0)] : List Value).toArray below meth c H locs 0 0 (kb_Qi D kcl (tyM G) (wM A G M0) (wM A G M') sz r below ([.ref (A 0)] : List Value).toArray s) (F0 m 2 ls []) := by
    intro n2
    induction n2 with
    | zero =>
      intro u1 M H locs ls h
      cases h
    | succ n2 ih =>
      have ih2 := ih
      have loop_44 : ∀ (n44 : Nat) (u1 u2 u3 : Int32) (M : Nat → Nat → Int32) (H : Heap) (locs : List Loc) (ls : Array Slot), h_M_tidies_44 (fun y0 N => h_M_tidies_2 n2 y0 N) n44 u1 u2 u3 M = some (r, M') → kb_K D kcl (tyM G) (wM A G M) s (va_A (wM A G M0) sz) H locs → lv_has ls 4 [(0, .ref (A 0)), (1, .int u1), (2, .int u2), (3, .int u3)] → W p l e (headSpec (Cond.code y_M_tidies b_M_tidies 4 (some .boolean) :: wsM) { frames := 3, cells := 0, slots := 0, locals := 68 }).room s m ([.ref (A 0)] : List Value).toArray below meth c H locs 0 0 (kb_Qi D kcl (tyM G) (wM A G M0) (wM A G M') sz r below ([.ref (A 0)] : List Value).toArray s) (F0 m 44 ls []) := by
        intro n44
        induction n44 with
        | zero =>
          intro u1 u2 u3 M H locs ls h
          cases h
        | succ n44 ih =>
          intro u1 u2 u3 M H locs ls h hw hl
          rw [h_M_tidies_44] at h
          refine lv_iload_n hx hb d_M_tidies_44 rfl (lv_at hl 3 rfl) ?_
          refine lv_aload_n hx hb d_M_tidies_45 rfl (lv_at hl 0 rfl) ?_
          refine kb_get (own := "PileLiftsModel") (ref := "PileLiftsModel") (C := R_M) (T := F_M) (N := 22) hx hb htw i_M hown hw 0 (wM_0 A G _) rfl 1 (by decide) (htw _ mM_6) rfl rfl d_M_tidies_46 ?_
          refine lv_icmp_ge (tgt := 106) hx hb d_M_tidies_49 (by decide) (fun c => ?_) (fun c => ?_)
          · have h := kb_ip c h
            refine lv_iinc (v := (u1 + 1)) (lv' := [(1, .int (u1 + 1)), (0, .ref (A 0)), (2, .int u2), (3, .int u3)]) hx hb d_M_tidies_106 hl (k := 1) rfl rfl (by decide) rfl (fun ls hl => ?_)
            refine lv_goto (tgt := 2) hx hb d_M_tidies_109 (by decide) ?_
            exact ih2 (u1 + 1) M _ _ _ h hw (lv_sub hl [1, 0] rfl)
          · have h := kb_in c h
            refine lv_iload_n hx hb d_M_tidies_52 rfl (lv_at hl 3 rfl) ?_
            refine lv_iload_n hx hb d_M_tidies_53 rfl (lv_at hl 1 rfl) ?_
            refine lv_icmp_eq (tgt := 100) hx hb d_M_tidies_54 (by decide) (fun c => ?_) (fun c => ?_)
            · have h := kb_ip c h
              refine lv_iinc (v := (u3 + 1)) (lv' := [(3, .int (u3 + 1)), (0, .ref (A 0)), (1, .int u1), (2, .int u2)]) hx hb d_M_tidies_100 hl (k := 3) rfl rfl (by decide) rfl (fun ls hl => ?_)
              refine lv_goto (tgt := 44) hx hb d_M_tidies_103 (by decide) ?_
              exact ih u1 u2 (u3 + 1) M _ _ _ h hw (lv_sub hl [1, 2, 3, 0] rfl)
            · have h := kb_in c h
              refine lv_aload_n hx hb d_M_tidies_57 rfl (lv_at hl 0 rfl) ?_
              refine lv_iconst (v := 0) hx hb d_M_tidies_58 (by decide) ?_
              refine lv_iload_n hx hb d_M_tidies_59 rfl (lv_at hl 3 rfl) ?_
              refine lv_aload_n hx hb d_M_tidies_60 rfl (lv_at hl 0 rfl) ?_
              refine kb_get (own := "PileLiftsModel") (ref := "PileLiftsModel") (C := R_M) (T := F_M) (N := 22) hx hb htw i_M hown hw 0 (wM_0 A G _) rfl 5 (by decide) (htw _ mM_10) rfl rfl d_M_tidies_61 ?_
              refine lv_iload_n hx hb d_M_tidies_64 rfl (lv_at hl 2 rfl) ?_
              obtain ⟨v6, ev6, hi, h⟩ := kb_rd_some h
              refine kb_ald hx hb hw 2 1 rfl rfl hi ev6 d_M_tidies_65 ?_
              obtain ⟨r7, M8, hc, h⟩ := kb_cl_some h
              refine kb_calli0 (va_runV (As := [.int (0 : Int32), .int u3, .int v6]) (rest := []) ⟨hx, hb, hml, hown, htw⟩ (c_M_takes l D A G (0 : Int32) u3 v6 M _ _ H.size hc) ⟨(callB_of 3 htw (wsM_self mM_69) rfl rfl rfl (htw _ mM_0) (htw _ mM_67) q_M_takes ⟨by show 1 + 1 ≤ 3; omega, by show 8 + (5 + 11) + 22 ≤ 68; omega⟩), htw _ mM_68, htw _ mM_151⟩ (kb_preV nnM_warm nnM_same hw hN 0 (wM_0 A G _) rfl) rfl rfl hl.1 rfl (lv_room (Nat.le_of_ble_eq_true rfl)) d_M_tidies_66 ⟨Nat.zero_le _, Nat.zero_le _⟩) hw (fun H locs hw => ?_)
              refine lv_if_eq (tgt := 100) hx hb d_M_tidies_69 (by decide) (fun c => ?_) (fun c => ?_)
              · have h := kb_ip c h
                refine lv_iinc (v := (u3 + 1)) (lv' := [(3, .int (u3 + 1)), (0, .ref (A 0)), (1, .int u1), (2, .int u2)]) hx hb d_M_tidies_100 hl (k := 3) rfl rfl (by decide) rfl (fun ls hl => ?_)
                refine lv_goto (tgt := 44) hx hb d_M_tidies_103 (by decide) ?_
                exact ih u1 u2 (u3 + 1) M8 _ _ _ h hw (lv_sub hl [1, 2, 3, 0] rfl)
              · have h := kb_in c h
                refine lv_aload_n hx hb d_M_tidies_72 rfl (lv_at hl 0 rfl) ?_
                refine lv_iconst (v := 0) hx hb d_M_tidies_73 (by decide) ?_
                refine lv_iload_n hx hb d_M_tidies_74 rfl (lv_at hl 3 rfl) ?_
                refine lv_aload_n hx hb d_M_tidies_75 rfl (lv_at hl 0 rfl) ?_
                refine kb_get (own := "PileLiftsModel") (ref := "PileLiftsModel") (C := R_M) (T := F_M) (N := 22) hx hb htw i_M hown hw 0 (wM_0 A G _) rfl 9 (by decide) (htw _ mM_14) rfl rfl d_M_tidies_76 ?_
                refine lv_iload_n hx hb d_M_tidies_79 rfl (lv_at hl 3 rfl) ?_
                obtain ⟨v9, ev9, hi, h⟩ := kb_rd_some h
                refine kb_ald hx hb hw 6 5 rfl rfl hi ev9 d_M_tidies_80 ?_
                refine lv_iload_n hx hb d_M_tidies_81 rfl (lv_at hl 2 rfl) ?_
                obtain ⟨r10, M11, hc, h⟩ := kb_cl_some h
                refine kb_calli0 (va_runV (As := [.int (0 : Int32), .int u3, .int v9, .int u2]) (rest := []) ⟨hx, hb, hml, hown, htw⟩ (c_M_blocksOn l D A G (0 : Int32) u3 v9 u2 M8 _ _ H.size hc) ⟨(callB_of 4 htw (wsM_self mM_93) rfl rfl rfl (htw _ mM_0) (htw _ mM_91) q_M_blocksOn ⟨by show 1 + 1 ≤ 3; omega, by show 8 + (6 + 11) + 22 ≤ 68; omega⟩), htw _ mM_92, htw _ mM_155⟩ (kb_preV nnM_warm nnM_same hw hN 0 (wM_0 A G _) rfl) rfl rfl hl.1 rfl (lv_room (Nat.le_of_ble_eq_true rfl)) d_M_tidies_82 ⟨Nat.zero_le _, Nat.zero_le _⟩) hw (fun H locs hw => ?_)
                refine lv_if_eq (tgt := 91) hx hb d_M_tidies_85 (by decide) (fun c => ?_) (fun c => ?_)
                · have h := kb_ip c h
                  refine lv_aload_n hx hb d_M_tidies_91 rfl (lv_at hl 0 rfl) ?_
                  refine lv_iconst (v := 0) hx hb d_M_tidies_92 (by decide) ?_
                  refine lv_iload_n hx hb d_M_tidies_93 rfl (lv_at hl 1 rfl) ?_
                  refine lv_iload_n hx hb d_M_tidies_94 rfl (lv_at hl 3 rfl) ?_
                  obtain ⟨r12, M13, hc, h⟩ := kb_cl_some h
                  refine kb_callv0 (va_runV (As := [.int (0 : Int32), .int u1, .int u3]) (rest := []) ⟨hx, hb, hml, hown, htw⟩ (c_M_lift l D A G (0 : Int32) u1 u3 M11 _ _ H.size hc) ⟨(callB_of 3 htw (wsM_self mM_121) rfl rfl rfl (htw _ mM_0) (htw _ mM_119) q_M_lift ⟨by show 2 + 1 ≤ 3; omega, by show 8 + (5 + 11) + 44 ≤ 68; omega⟩), htw _ mM_120, htw _ mM_163⟩ (kb_preV nnM_warm nnM_same hw hN 0 (wM_0 A G _) rfl) rfl rfl hl.1 rfl (lv_room (Nat.le_of_ble_eq_true rfl)) d_M_tidies_95 ⟨Nat.zero_le _, Nat.zero_le _⟩) hw (fun H locs hw => ?_)
                  refine lv_iconst (v := 1) hx hb d_M_tidies_98 (by decide) ?_
                  obtain ⟨rfl, rfl⟩ := kb_rt h
                  exact kb_zret hx hb hr hw hlocks (Or.inr rfl) d_M_tidies_99
                · have h := kb_in c h
                  refine lv_goto (tgt := 100) hx hb d_M_tidies_88 (by decide) ?_
                  refine lv_iinc (v := (u3 + 1)) (lv' := [(3, .int (u3 + 1)), (0, .ref (A 0)), (1, .int u1), (2, .int u2)]) hx hb d_M_tidies_100 hl (k := 3) rfl rfl (by decide) rfl (fun ls hl => ?_)
                  refine lv_goto (tgt := 44) hx hb d_M_tidies_103 (by decide) ?_
                  exact ih u1 u2 (u3 + 1) M11 _ _ _ h hw (lv_sub hl [1, 2, 3, 0] rfl)
      intro u1 M H locs ls h hw hl
      rw [h_M_tidies_2] at h
      refine lv_iload_n hx hb d_M_tidies_2 rfl (lv_at hl 1 rfl) ?_
      refine lv_aload_n hx hb d_M_tidies_3 rfl (lv_at hl 0 rfl) ?_
      refine kb_get (own := "PileLiftsModel") (ref := "PileLiftsModel") (C := R_M) (T := F_M) (N := 22) hx hb htw i_M hown hw 0 (wM_0 A G _) rfl 1 (by decide) (htw _ mM_6) rfl rfl d_M_tidies_4 ?_
      refine lv_icmp_ge (tgt := 112) hx hb d_M_tidies_7 (by decide) (fun c => ?_) (fun c => ?_)
      · have h := kb_ip c h
        refine lv_iconst (v := 0) hx hb d_M_tidies_112 (by decide) ?_
        obtain ⟨rfl, rfl⟩ := kb_rt h
        exact kb_zret hx hb hr hw hlocks (Or.inl rfl) d_M_tidies_113
      · have h := kb_in c h
        refine lv_aload_n hx hb d_M_tidies_10 rfl (lv_at hl 0 rfl) ?_
        refine lv_iconst (v := 0) hx hb d_M_tidies_11 (by decide) ?_
        refine lv_iload_n hx hb d_M_tidies_12 rfl (lv_at hl 1 rfl) ?_
        obtain ⟨r1, M2, hc, h⟩ := kb_cl_some h
        refine kb_calli0 (va_runV (As := [.int (0 : Int32), .int u1]) (rest := []) ⟨hx, hb, hml, hown, htw⟩ (c_M_topOf l D A G (0 : Int32) u1 M _ _ H.size hc) ⟨(callB_of 2 htw (wsM_self mM_115) rfl rfl rfl (htw _ mM_0) (htw _ mM_113) q_M_topOf ⟨by show 1 + 1 ≤ 3; omega, by show 8 + (3 + 11) + 22 ≤ 68; omega⟩), htw _ mM_114, htw _ mM_161⟩ (kb_preV nnM_warm nnM_same hw hN 0 (wM_0 A G _) rfl) rfl rfl hl.1 rfl (lv_room (Nat.le_of_ble_eq_true rfl)) d_M_tidies_13 ⟨Nat.zero_le _, Nat.zero_le _⟩) hw (fun H locs hw => ?_)
        refine lv_istore_n (lv' := [(2, .int r1), (0, .ref (A 0)), (1, .int u1)]) hx hb d_M_tidies_16 rfl hl (by decide) rfl (fun ls hl => ?_)
        refine lv_iload_n hx hb d_M_tidies_17 rfl (lv_at hl 0 rfl) ?_
        refine lv_if_lt (tgt := 106) hx hb d_M_tidies_18 (by decide) (fun c => ?_) (fun c => ?_)
        · have h := kb_ip c h
          refine lv_iinc (v := (u1 + 1)) (lv' := [(1, .int (u1 + 1)), (2, .int r1), (0, .ref (A 0))]) hx hb d_M_tidies_106 hl (k := 2) rfl rfl (by decide) rfl (fun ls hl => ?_)
          refine lv_goto (tgt := 2) hx hb d_M_tidies_109 (by decide) ?_
          exact ih (u1 + 1) M2 _ _ _ h hw (lv_sub hl [2, 0] rfl)
        · have h := kb_in c h
          refine lv_aload_n hx hb d_M_tidies_21 rfl (lv_at hl 1 rfl) ?_
          refine lv_iconst (v := 0) hx hb d_M_tidies_22 (by decide) ?_
          refine lv_iload_n hx hb d_M_tidies_23 rfl (lv_at hl 2 rfl) ?_
          refine lv_aload_n hx hb d_M_tidies_24 rfl (lv_at hl 1 rfl) ?_
          refine kb_get (own := "PileLiftsModel") (ref := "PileLiftsModel") (C := R_M) (T := F_M) (N := 22) hx hb htw i_M hown hw 0 (wM_0 A G _) rfl 9 (by decide) (htw _ mM_14) rfl rfl d_M_tidies_25 ?_
          refine lv_iload_n hx hb d_M_tidies_28 rfl (lv_at hl 2 rfl) ?_
          obtain ⟨v3, ev3, hi, h⟩ := kb_rd_some h
          refine kb_ald hx hb hw 6 5 rfl rfl hi ev3 d_M_tidies_29 ?_
          refine lv_iconst (v := 1) hx hb d_M_tidies_30 (by decide) ?_
          refine lv_isub hx hb d_M_tidies_31 ?_
          refine lv_iload_n hx hb d_M_tidies_32 rfl (lv_at hl 0 rfl) ?_
          obtain ⟨r4, M5, hc, h⟩ := kb_cl_some h
          refine kb_calli0 (va_runV (As := [.int (0 : Int32), .int u1, .int (v3 - (1 : Int32)), .int r1]) (rest := []) ⟨hx, hb, hml, hown, htw⟩ (c_M_blocksOn l D A G (0 : Int32) u1 (v3 - (1 : Int32)) r1 M2 _ _ H.size hc) ⟨(callB_of 4 htw (wsM_self mM_93) rfl rfl rfl (htw _ mM_0) (htw _ mM_91) q_M_blocksOn ⟨by show 1 + 1 ≤ 3; omega, by show 8 + (6 + 11) + 22 ≤ 68; omega⟩), htw _ mM_92, htw _ mM_155⟩ (kb_preV nnM_warm nnM_same hw hN 0 (wM_0 A G _) rfl) rfl rfl hl.1 rfl (lv_room (Nat.le_of_ble_eq_true rfl)) d_M_tidies_33 ⟨Nat.zero_le _, Nat.zero_le _⟩) hw (fun H locs hw => ?_)
          refine lv_if_ne (tgt := 42) hx hb d_M_tidies_36 (by decide) (fun c => ?_) (fun c => ?_)
          · have h := kb_in c h
            refine lv_iconst (v := 0) hx hb d_M_tidies_42 (by decide) ?_
            refine lv_istore_n (lv' := [(3, .int (0 : Int32)), (2, .int r1), (0, .ref (A 0)), (1, .int u1)]) hx hb d_M_tidies_43 rfl hl (by decide) rfl (fun ls hl => ?_)
            exact loop_44 kb_F u1 r1 (0 : Int32) M5 _ _ _ h hw (lv_sub hl [2, 3, 1, 0] rfl)
          · have h := kb_ip c h
            refine lv_goto (tgt := 106) hx hb d_M_tidies_39 (by decide) ?_
            refine lv_iinc (v := (u1 + 1)) (lv' := [(1, .int (u1 + 1)), (2, .int r1), (0, .ref (A 0))]) hx hb d_M_tidies_106 hl (k := 2) rfl rfl (by decide) rfl (fun ls hl => ?_)
            refine lv_goto (tgt := 2) hx hb d_M_tidies_109 (by decide) ?_
            exact ih (u1 + 1) M5 _ _ _ h hw (lv_sub hl [2, 0] rfl)
  have hl := lv_entry ([.ref (A 0)]) (n := 4) (Nat.le_of_ble_eq_true rfl)
  rw [lg_entry_eq]
  generalize (lg_sl ([.ref (A 0)]) ++ List.replicate (4 - (lg_sl ([.ref (A 0)])).length) Slot.unset).toArray = ls at hl ⊢
  have hl : lv_has ls 4 [(0, .ref (A 0))] := hl
  rw [f_M_tidies] at h
  refine lv_iconst (v := 0) hx hb d_M_tidies_0 (by decide) ?_
  refine lv_istore_n (lv' := [(1, .int (0 : Int32)), (0, .ref (A 0))]) hx hb d_M_tidies_1 rfl hl (by decide) rfl (fun ls hl => ?_)
  exact loop_2 kb_F (0 : Int32) M0 _ _ _ h hw (lv_sub hl [1, 0] rfl)
def h_M_tidy_20 : Nat → Int32 → Int32 → (Nat → Nat → Int32) → Option (Int32 × (Nat → Nat → Int32))
  | 0, _, _, _ => none
  | n + 1, u1, u2, M => (if u1 ≤ u2 then (if u2 ≤ (0 : Int32) then some (u2, M) else kb_cl (f_M_changed M) (fun r5 M6 => some (u2, M6))) else kb_cl (f_M_tidies M) (fun r7 M8 => (if r7 = (0 : Int32) then (if u2 ≤ (0 : Int32) then some (u2, M8) else kb_cl (f_M_changed M8) (fun r9 M10 => some (u2, M10))) else h_M_tidy_20 n u1 (u2 + 1) M8)))
def f_M_tidy (x1 : Int32) (M0 : Nat → Nat → Int32) : Option (Int32 × (Nat → Nat → Int32)) := kb_cl (f_M_in x1 (0 : Int32) (20 : Int32) M0) (fun r1 M2 => kb_cl (f_M_goes r1 (1 : Int32) (1 : Int32) M2) (fun r3 M4 => (if r3 = (0 : Int32) then some ((0 : Int32), M4) else h_M_tidy_20 kb_F x1 (0 : Int32) M4)))
set_option maxHeartbeats 4000000 in
set_option maxRecDepth 100000 in
theorem c_M_tidy (l : Launch) (D : va_G) (A : Nat → Nat) (G : Nat → ClassId) (x1 : Int32) (M0 : Nat → Nat → Int32) (r : Int32) (M' : Nat → Nat → Int32) (sz : Nat) (h : f_M_tidy x1 M0 = some (r, M')) : kb_Ci l y_M_tidy (Cond.code y_M_tidy b_M_tidy 3 (some .int) :: wsM) { frames := 4, cells := 0, slots := 0, locals := 91 } [.ref (A 0), .int x1] D kcl (tyM G) (wM A G M0) (wM A G M') nnM sz r := by
  refine Met.ofW (cc := b_M_tidy) (maxL := 3) (ret := (some .int)) (by decide) rfl ?_
  intro p e s m args below meth c s₁ B hml hv
  obtain ⟨rfl, hpre⟩ := hv
  obtain ⟨hw, hN⟩ := kb_enter hpre
  have hx := B.exec
  have hb := B.bytes
  have hr := B.returns
  have hts := atoms_spec (ws := (Cond.code y_M_tidy b_M_tidy 3 (some .int) :: wsM)) B.pre
  have htw : ∀ w ∈ wsM, w.before ([.ref (A 0), .int x1] : List Value).toArray s = true := fun w h => hts w (List.mem_cons_of_mem _ h)
  have hown : s.vm.findClass "PileLiftsModel" = some m.cls := findClass_of_methodNamed B.named
  have hlocks := B.notSynchronized
  have loop_20 : ∀ (n20 : Nat) (u1 u2 : Int32) (M : Nat → Nat → Int32) (H : Heap) (locs : List Loc) (ls : Array Slot), h_M_tidy_20 n20 u1 u2 M = some (r, M') → kb_K D kcl (tyM G) (wM A G M) s (va_A (wM A G M0) sz) H locs → lv_has ls 3 [(0, .ref (A 0)), (1, .int u1), (2, .int u2)] → W p l e (headSpec (Cond.code y_M_tidy b_M_tidy 3 (some .int) :: wsM) { frames := 4, cells := 0, slots := 0, locals := 91 }).room s m ([.ref (A 0), .int x1] : List Value).toArray below meth c H locs 0 0 (kb_Qi D kcl (tyM G) (wM A G M0) (wM A G M') sz r below ([.ref (A 0), .int x1] : List Value).toArray s) (F0 m 20 ls []) := by
    intro n20
    induction n20 with
    | zero =>
      intro u1 u2 M H locs ls h
      cases h
    | succ n20 ih =>
      intro u1 u2 M H locs ls h hw hl
      rw [h_M_tidy_20] at h
      refine lv_iload_n hx hb d_M_tidy_20 rfl (lv_at hl 2 rfl) ?_
      refine lv_iload_n hx hb d_M_tidy_21 rfl (lv_at hl 1 rfl) ?_
      refine lv_icmp_ge (tgt := 38) hx hb d_M_tidy_22 (by decide) (fun c => ?_) (fun c => ?_)
      · have h := kb_ip c h
        refine lv_iload_n hx hb d_M_tidy_38 rfl (lv_at hl 2 rfl) ?_
        refine lv_if_le (tgt := 46) hx hb d_M_tidy_39 (by decide) (fun c => ?_) (fun c => ?_)
        · have h := kb_ip c h
          refine lv_iload_n hx hb d_M_tidy_46 rfl (lv_at hl 2 rfl) ?_
          obtain ⟨rfl, rfl⟩ := kb_rt h
          exact kb_iret hx hb hr hw hlocks d_M_tidy_47
        · have h := kb_in c h
          refine lv_aload_n hx hb d_M_tidy_42 rfl (lv_at hl 0 rfl) ?_
          obtain ⟨r5, M6, hc, h⟩ := kb_cl_some h
          refine kb_callv0 (va_runV (As := []) (rest := []) ⟨hx, hb, hml, hown, htw⟩ (c_M_changed l D A G M _ _ H.size hc) ⟨(callB_of 0 htw (wsM_self mM_63) rfl rfl rfl (htw _ mM_0) (htw _ mM_61) q_M_changed ⟨by show 0 + 1 ≤ 4; omega, by show 8 + (1 + 11) + 0 ≤ 91; omega⟩), htw _ mM_62, htw _ mM_150⟩ (kb_preV nnM_warm nnM_same hw hN 0 (wM_0 A G _) rfl) rfl rfl hl.1 rfl (lv_room (Nat.le_of_ble_eq_true rfl)) d_M_tidy_43 ⟨Nat.zero_le _, Nat.zero_le _⟩) hw (fun H locs hw => ?_)
          refine lv_iload_n hx hb d_M_tidy_46 rfl (lv_at hl 2 rfl) ?_
          obtain ⟨rfl, rfl⟩ := kb_rt h
          exact kb_iret hx hb hr hw hlocks d_M_tidy_47
      · have h := kb_in c h
        refine lv_aload_n hx hb d_M_tidy_25 rfl (lv_at hl 0 rfl) ?_
        obtain ⟨r7, M8, hc, h⟩ := kb_cl_some h
        refine kb_calli0 (va_runV (As := []) (rest := []) ⟨hx, hb, hml, hown, htw⟩ (c_M_tidies l D A G M _ _ H.size hc) ⟨(callB_of 0 htw (wsM_self mM_142) rfl rfl rfl (htw _ mM_0) (htw _ mM_140) q_M_tidies ⟨by show 3 + 1 ≤ 4; omega, by show 8 + (4 + 11) + 68 ≤ 91; omega⟩), htw _ mM_141, htw _ mM_164⟩ (kb_preV nnM_warm nnM_same hw hN 0 (wM_0 A G _) rfl) rfl rfl hl.1 rfl (lv_room (Nat.le_of_ble_eq_true rfl)) d_M_tidy_26 ⟨Nat.zero_le _, Nat.zero_le _⟩) hw (fun H locs hw => ?_)
        refine lv_if_eq (tgt := 38) hx hb d_M_tidy_29 (by decide) (fun c => ?_) (fun c => ?_)
        · have h := kb_ip c h
          refine lv_iload_n hx hb d_M_tidy_38 rfl (lv_at hl 2 rfl) ?_
          refine lv_if_le (tgt := 46) hx hb d_M_tidy_39 (by decide) (fun c => ?_) (fun c => ?_)
          · have h := kb_ip c h
            refine lv_iload_n hx hb d_M_tidy_46 rfl (lv_at hl 2 rfl) ?_
            obtain ⟨rfl, rfl⟩ := kb_rt h
            exact kb_iret hx hb hr hw hlocks d_M_tidy_47
          · have h := kb_in c h
            refine lv_aload_n hx hb d_M_tidy_42 rfl (lv_at hl 0 rfl) ?_
            obtain ⟨r9, M10, hc, h⟩ := kb_cl_some h
            refine kb_callv0 (va_runV (As := []) (rest := []) ⟨hx, hb, hml, hown, htw⟩ (c_M_changed l D A G M8 _ _ H.size hc) ⟨(callB_of 0 htw (wsM_self mM_63) rfl rfl rfl (htw _ mM_0) (htw _ mM_61) q_M_changed ⟨by show 0 + 1 ≤ 4; omega, by show 8 + (1 + 11) + 0 ≤ 91; omega⟩), htw _ mM_62, htw _ mM_150⟩ (kb_preV nnM_warm nnM_same hw hN 0 (wM_0 A G _) rfl) rfl rfl hl.1 rfl (lv_room (Nat.le_of_ble_eq_true rfl)) d_M_tidy_43 ⟨Nat.zero_le _, Nat.zero_le _⟩) hw (fun H locs hw => ?_)
            refine lv_iload_n hx hb d_M_tidy_46 rfl (lv_at hl 2 rfl) ?_
            obtain ⟨rfl, rfl⟩ := kb_rt h
            exact kb_iret hx hb hr hw hlocks d_M_tidy_47
        · have h := kb_in c h
          refine lv_iinc (v := (u2 + 1)) (lv' := [(2, .int (u2 + 1)), (0, .ref (A 0)), (1, .int u1)]) hx hb d_M_tidy_32 hl (k := 2) rfl rfl (by decide) rfl (fun ls hl => ?_)
          refine lv_goto (tgt := 20) hx hb d_M_tidy_35 (by decide) ?_
          exact ih u1 (u2 + 1) M8 _ _ _ h hw (lv_sub hl [1, 2, 0] rfl)
  have hl := lv_entry ([.ref (A 0), .int x1]) (n := 3) (Nat.le_of_ble_eq_true rfl)
  rw [lg_entry_eq]
  generalize (lg_sl ([.ref (A 0), .int x1]) ++ List.replicate (3 - (lg_sl ([.ref (A 0), .int x1])).length) Slot.unset).toArray = ls at hl ⊢
  have hl : lv_has ls 3 [(0, .ref (A 0)), (1, .int x1)] := hl
  rw [f_M_tidy] at h
  refine lv_aload_n hx hb d_M_tidy_0 rfl (lv_at hl 0 rfl) ?_
  refine lv_iload_n hx hb d_M_tidy_1 rfl (lv_at hl 1 rfl) ?_
  refine lv_iconst (v := 0) hx hb d_M_tidy_2 (by decide) ?_
  refine lv_bipush (v := 20) hx hb d_M_tidy_3 (by decide) ?_
  obtain ⟨r1, M2, hc, h⟩ := kb_cl_some h
  refine kb_calli0 (va_runS (As := [.int x1, .int (0 : Int32), .int (20 : Int32)]) (rest := [.ref (A 0)]) ⟨hx, hb, hml, hown, htw⟩ (c_M_in l D A G x1 (0 : Int32) (20 : Int32) M0 _ _ s.heap.size hc) ⟨(callB_of 3 htw (wsM_self mM_57) rfl rfl rfl (htw _ mM_0) (htw _ mM_55) q_M_in ⟨by show 0 + 1 ≤ 4; omega, by show 8 + (3 + 11) + 0 ≤ 91; omega⟩), htw _ mM_56⟩ (kb_preS nnM_warm nnM_same hw hN ) rfl rfl hl.1 rfl (lv_room (Nat.le_of_ble_eq_true rfl)) d_M_tidy_5 ⟨Nat.zero_le _, Nat.zero_le _⟩) hw (fun H locs hw => ?_)
  refine lv_iconst (v := 1) hx hb d_M_tidy_8 (by decide) ?_
  refine lv_iconst (v := 1) hx hb d_M_tidy_9 (by decide) ?_
  obtain ⟨r3, M4, hc, h⟩ := kb_cl_some h
  refine kb_calli0 (va_runV (As := [.int r1, .int (1 : Int32), .int (1 : Int32)]) (rest := []) ⟨hx, hb, hml, hown, htw⟩ (c_M_goes l D A G r1 (1 : Int32) (1 : Int32) M2 _ _ H.size hc) ⟨(callB_of 3 htw (wsM_self mM_60) rfl rfl rfl (htw _ mM_0) (htw _ mM_58) q_M_goes ⟨by show 0 + 1 ≤ 4; omega, by show 8 + (4 + 11) + 0 ≤ 91; omega⟩), htw _ mM_59, htw _ mM_149⟩ (kb_preV nnM_warm nnM_same hw hN 0 (wM_0 A G _) rfl) rfl rfl hl.1 rfl (lv_room (Nat.le_of_ble_eq_true rfl)) d_M_tidy_10 ⟨Nat.zero_le _, Nat.zero_le _⟩) hw (fun H locs hw => ?_)
  refine lv_if_ne (tgt := 18) hx hb d_M_tidy_13 (by decide) (fun c => ?_) (fun c => ?_)
  · have h := kb_in c h
    refine lv_iconst (v := 0) hx hb d_M_tidy_18 (by decide) ?_
    refine lv_istore_n (lv' := [(2, .int (0 : Int32)), (0, .ref (A 0)), (1, .int x1)]) hx hb d_M_tidy_19 rfl hl (by decide) rfl (fun ls hl => ?_)
    exact loop_20 kb_F x1 (0 : Int32) M4 _ _ _ h hw (lv_sub hl [1, 2, 0] rfl)
  · have h := kb_ip c h
    refine lv_iconst (v := 0) hx hb d_M_tidy_16 (by decide) ?_
    obtain ⟨rfl, rfl⟩ := kb_rt h
    exact kb_iret hx hb hr hw hlocks d_M_tidy_17
def h_M_wagon_22 (u1 w0 w1 : Int32) (M : Nat → Nat → Int32) : Option (Int32 × (Nat → Nat → Int32)) := kb_cl (f_M_goes w1 w0 (1 : Int32) M) (fun r3 M4 => (if r3 = (0 : Int32) then some ((0 : Int32), M4) else kb_wr M4 12 4 (M4 0 19) u1 (fun M5 => kb_wr M5 13 4 (M5 0 19) (0 : Int32) (fun M6 => kb_st (kb_up M6 0 (upd (M6 0) 19 ((M6 0 19) + (1 : Int32)))) (fun M7 => some (((M7 0 19) - (1 : Int32)), M7))))))
def f_M_wagon (x1 : Int32) (M0 : Nat → Nat → Int32) : Option (Int32 × (Nat → Nat → Int32)) := kb_cl (f_M_in x1 (1 : Int32) (5000 : Int32) M0) (fun r1 M2 => (if (4 : Int32) ≤ (M2 0 19) then h_M_wagon_22 x1 (0 : Int32) r1 M2 else h_M_wagon_22 x1 (1 : Int32) r1 M2))
set_option maxHeartbeats 4000000 in
set_option maxRecDepth 100000 in
theorem c_M_wagon (l : Launch) (D : va_G) (A : Nat → Nat) (G : Nat → ClassId) (x1 : Int32) (M0 : Nat → Nat → Int32) (r : Int32) (M' : Nat → Nat → Int32) (sz : Nat) (h : f_M_wagon x1 M0 = some (r, M')) : kb_Ci l y_M_wagon (Cond.code y_M_wagon b_M_wagon 2 (some .int) :: wsM) { frames := 1, cells := 0, slots := 0, locals := 23 } [.ref (A 0), .int x1] D kcl (tyM G) (wM A G M0) (wM A G M') nnM sz r := by
  refine Met.ofW (cc := b_M_wagon) (maxL := 2) (ret := (some .int)) (by decide) rfl ?_
  intro p e s m args below meth c s₁ B hml hv
  obtain ⟨rfl, hpre⟩ := hv
  obtain ⟨hw, hN⟩ := kb_enter hpre
  have hx := B.exec
  have hb := B.bytes
  have hr := B.returns
  have hts := atoms_spec (ws := (Cond.code y_M_wagon b_M_wagon 2 (some .int) :: wsM)) B.pre
  have htw : ∀ w ∈ wsM, w.before ([.ref (A 0), .int x1] : List Value).toArray s = true := fun w h => hts w (List.mem_cons_of_mem _ h)
  have hown : s.vm.findClass "PileLiftsModel" = some m.cls := findClass_of_methodNamed B.named
  have hlocks := B.notSynchronized
  have loop_22 : ∀ (u1 w0 w1 : Int32) (M : Nat → Nat → Int32) (H : Heap) (locs : List Loc) (ls : Array Slot), h_M_wagon_22 u1 w0 w1 M = some (r, M') → kb_K D kcl (tyM G) (wM A G M) s (va_A (wM A G M0) sz) H locs → lv_has ls 2 [(0, .ref (A 0)), (1, .int u1)] → W p l e (headSpec (Cond.code y_M_wagon b_M_wagon 2 (some .int) :: wsM) { frames := 1, cells := 0, slots := 0, locals := 23 }).room s m ([.ref (A 0), .int x1] : List Value).toArray below meth c H locs 0 0 (kb_Qi D kcl (tyM G) (wM A G M0) (wM A G M') sz r below ([.ref (A 0), .int x1] : List Value).toArray s) (F0 m 22 ls [.int w0, .int w1, .ref (A 0)]) := by
    intro u1 w0 w1 M H locs ls h hw hl
    rw [h_M_wagon_22] at h
    refine lv_iconst (v := 1) hx hb d_M_wagon_22 (by decide) ?_
    obtain ⟨r3, M4, hc, h⟩ := kb_cl_some h
    refine kb_calli0 (va_runV (As := [.int w1, .int w0, .int (1 : Int32)]) (rest := []) ⟨hx, hb, hml, hown, htw⟩ (c_M_goes l D A G w1 w0 (1 : Int32) M _ _ H.size hc) ⟨(callB_of 3 htw (wsM_self mM_60) rfl rfl rfl (htw _ mM_0) (htw _ mM_58) q_M_goes ⟨by show 0 + 1 ≤ 1; omega, by show 8 + (4 + 11) + 0 ≤ 23; omega⟩), htw _ mM_59, htw _ mM_149⟩ (kb_preV nnM_warm nnM_same hw hN 0 (wM_0 A G _) rfl) rfl rfl hl.1 rfl (lv_room (Nat.le_of_ble_eq_true rfl)) d_M_wagon_23 ⟨Nat.zero_le _, Nat.zero_le _⟩) hw (fun H locs hw => ?_)
    refine lv_if_ne (tgt := 31) hx hb d_M_wagon_26 (by decide) (fun c => ?_) (fun c => ?_)
    · have h := kb_in c h
      refine lv_aload_n hx hb d_M_wagon_31 rfl (lv_at hl 0 rfl) ?_
      refine kb_get (own := "PileLiftsModel") (ref := "PileLiftsModel") (C := R_M) (T := F_M) (N := 22) hx hb htw i_M hown hw 0 (wM_0 A G _) rfl 20 (by decide) (htw _ mM_25) rfl rfl d_M_wagon_32 ?_
      refine lv_aload_n hx hb d_M_wagon_35 rfl (lv_at hl 0 rfl) ?_
      refine kb_get (own := "PileLiftsModel") (ref := "PileLiftsModel") (C := R_M) (T := F_M) (N := 22) hx hb htw i_M hown hw 0 (wM_0 A G _) rfl 19 (by decide) (htw _ mM_24) rfl rfl d_M_wagon_36 ?_
      refine lv_iload_n hx hb d_M_wagon_39 rfl (lv_at hl 1 rfl) ?_
      obtain ⟨M5, eM5, hi, h⟩ := kb_wr_some h
      refine kb_ast (ws' := (wM A G M5)) hx hb hw 12 11 rfl rfl hi d_M_wagon_40 (by rw [eM5]; rfl) (fun H locs hw => ?_)
      refine lv_aload_n hx hb d_M_wagon_41 rfl (lv_at hl 0 rfl) ?_
      refine kb_get (own := "PileLiftsModel") (ref := "PileLiftsModel") (C := R_M) (T := F_M) (N := 22) hx hb htw i_M hown hw 0 (wM_0 A G _) rfl 21 (by decide) (htw _ mM_26) rfl rfl d_M_wagon_42 ?_
      refine lv_aload_n hx hb d_M_wagon_45 rfl (lv_at hl 0 rfl) ?_
      refine kb_get (own := "PileLiftsModel") (ref := "PileLiftsModel") (C := R_M) (T := F_M) (N := 22) hx hb htw i_M hown hw 0 (wM_0 A G _) rfl 19 (by decide) (htw _ mM_24) rfl rfl d_M_wagon_46 ?_
      refine lv_iconst (v := 0) hx hb d_M_wagon_49 (by decide) ?_
      obtain ⟨M6, eM6, hi, h⟩ := kb_wr_some h
      refine kb_ast (ws' := (wM A G M6)) hx hb hw 13 12 rfl rfl hi d_M_wagon_50 (by rw [eM6]; rfl) (fun H locs hw => ?_)
      refine lv_aload_n hx hb d_M_wagon_51 rfl (lv_at hl 0 rfl) ?_
      refine lv_dup hx hb d_M_wagon_52 rfl ?_
      refine kb_get (own := "PileLiftsModel") (ref := "PileLiftsModel") (C := R_M) (T := F_M) (N := 22) hx hb htw i_M hown hw 0 (wM_0 A G _) rfl 19 (by decide) (htw _ mM_24) rfl rfl d_M_wagon_53 ?_
      refine lv_iconst (v := 1) hx hb d_M_wagon_56 (by decide) ?_
      refine lv_iadd hx hb d_M_wagon_57 ?_
      obtain ⟨M7, eM7, h⟩ := kb_st_some h
      refine kb_put (ws' := (wM A G M7)) (own := "PileLiftsModel") (ref := "PileLiftsModel") (C := R_M) (T := F_M) (N := 22) (ty := .int) hx hb htw i_M t_M t_M_ok n_M hown hw 0 (wM_0 A G _) rfl 19 (by decide) (htw _ mM_24) rfl rfl (by decide +kernel) rfl rfl (Nat.le_of_ble_eq_true rfl) d_M_wagon_58 (by rw [eM7]; rfl) (fun H locs hw => ?_)
      refine lv_aload_n hx hb d_M_wagon_61 rfl (lv_at hl 0 rfl) ?_
      refine kb_get (own := "PileLiftsModel") (ref := "PileLiftsModel") (C := R_M) (T := F_M) (N := 22) hx hb htw i_M hown hw 0 (wM_0 A G _) rfl 19 (by decide) (htw _ mM_24) rfl rfl d_M_wagon_62 ?_
      refine lv_iconst (v := 1) hx hb d_M_wagon_65 (by decide) ?_
      refine lv_isub hx hb d_M_wagon_66 ?_
      obtain ⟨rfl, rfl⟩ := kb_rt h
      exact kb_iret hx hb hr hw hlocks d_M_wagon_67
    · have h := kb_ip c h
      refine lv_iconst (v := 0) hx hb d_M_wagon_29 (by decide) ?_
      obtain ⟨rfl, rfl⟩ := kb_rt h
      exact kb_iret hx hb hr hw hlocks d_M_wagon_30
  have hl := lv_entry ([.ref (A 0), .int x1]) (n := 2) (Nat.le_of_ble_eq_true rfl)
  rw [lg_entry_eq]
  generalize (lg_sl ([.ref (A 0), .int x1]) ++ List.replicate (2 - (lg_sl ([.ref (A 0), .int x1])).length) Slot.unset).toArray = ls at hl ⊢
  have hl : lv_has ls 2 [(0, .ref (A 0)), (1, .int x1)] := hl
  rw [f_M_wagon] at h
  refine lv_aload_n hx hb d_M_wagon_0 rfl (lv_at hl 0 rfl) ?_
  refine lv_iload_n hx hb d_M_wagon_1 rfl (lv_at hl 1 rfl) ?_
  refine lv_iconst (v := 1) hx hb d_M_wagon_2 (by decide) ?_
  refine lv_sipush (v := 5000) hx hb d_M_wagon_3 (by decide) ?_
  obtain ⟨r1, M2, hc, h⟩ := kb_cl_some h
  refine kb_calli0 (va_runS (As := [.int x1, .int (1 : Int32), .int (5000 : Int32)]) (rest := [.ref (A 0)]) ⟨hx, hb, hml, hown, htw⟩ (c_M_in l D A G x1 (1 : Int32) (5000 : Int32) M0 _ _ s.heap.size hc) ⟨(callB_of 3 htw (wsM_self mM_57) rfl rfl rfl (htw _ mM_0) (htw _ mM_55) q_M_in ⟨by show 0 + 1 ≤ 1; omega, by show 8 + (3 + 11) + 0 ≤ 23; omega⟩), htw _ mM_56⟩ (kb_preS nnM_warm nnM_same hw hN ) rfl rfl hl.1 rfl (lv_room (Nat.le_of_ble_eq_true rfl)) d_M_wagon_6 ⟨Nat.zero_le _, Nat.zero_le _⟩) hw (fun H locs hw => ?_)
  refine lv_aload_n hx hb d_M_wagon_9 rfl (lv_at hl 0 rfl) ?_
  refine kb_get (own := "PileLiftsModel") (ref := "PileLiftsModel") (C := R_M) (T := F_M) (N := 22) hx hb htw i_M hown hw 0 (wM_0 A G _) rfl 19 (by decide) (htw _ mM_24) rfl rfl d_M_wagon_10 ?_
  refine lv_iconst (v := 4) hx hb d_M_wagon_13 (by decide) ?_
  refine lv_icmp_ge (tgt := 21) hx hb d_M_wagon_14 (by decide) (fun c => ?_) (fun c => ?_)
  · have h := kb_ip c h
    refine lv_iconst (v := 0) hx hb d_M_wagon_21 (by decide) ?_
    exact loop_22 x1 (0 : Int32) r1 M2 _ _ _ h hw (lv_sub hl [0, 1] rfl)
  · have h := kb_in c h
    refine lv_iconst (v := 1) hx hb d_M_wagon_17 (by decide) ?_
    refine lv_goto (tgt := 22) hx hb d_M_wagon_18 (by decide) ?_
    exact loop_22 x1 (1 : Int32) r1 M2 _ _ _ h hw (lv_sub hl [0, 1] rfl)
def h_M_load_90 (u1 u3 w0 w1 w2 : Int32) (M : Nat → Nat → Int32) : Option (Int32 × (Nat → Nat → Int32)) := kb_cl (f_M_goes w2 w1 w0 M) (fun r3 M4 => (if r3 = (0 : Int32) then some ((0 : Int32), M4) else kb_rd (M4 13) 4 u3 (fun v5 => kb_rd (M4 1) 10 u1 (fun v6 => kb_wr M4 13 4 u3 (v5 + v6) (fun M7 => kb_wr M7 4 10 u1 u3 (fun M8 => some (u3, M8)))))))
def h_M_load_77 (u1 u3 w0 w1 : Int32) (M : Nat → Nat → Int32) : Option (Int32 × (Nat → Nat → Int32)) := (if (M 0 19) ≤ u3 then h_M_load_90 u1 u3 (0 : Int32) w0 w1 M else h_M_load_90 u1 u3 (1 : Int32) w0 w1 M)
def h_M_load_76 (u1 u3 w0 : Int32) (M : Nat → Nat → Int32) : Option (Int32 × (Nat → Nat → Int32)) := h_M_load_77 u1 u3 (0 : Int32) w0 M
def h_M_load_48 (u1 u2 u3 : Int32) (M : Nat → Nat → Int32) : Option (Int32 × (Nat → Nat → Int32)) := (if u2 = (0 : Int32) then h_M_load_76 u1 u3 u2 M else kb_cl (f_M_isGone (0 : Int32) u1 M) (fun r9 M10 => (if r9 = (0 : Int32) then h_M_load_76 u1 u3 u2 M10 else kb_rd (M10 4) 10 u1 (fun v11 => (if (0 : Int32) ≤ v11 then h_M_load_76 u1 u3 u2 M10 else h_M_load_77 u1 u3 (1 : Int32) u2 M10)))))
def h_M_load_8 : Nat → Int32 → Int32 → Int32 → (Nat → Nat → Int32) → Option (Int32 × (Nat → Nat → Int32))
  | 0, _, _, _, _ => none
  | n + 1, u1, u2, u3, M => (if u2 = (0 : Int32) then h_M_load_48 u1 u2 u3 M else (if (M 0 19) ≤ u3 then h_M_load_48 u1 u2 u3 M else kb_rd (M 13) 4 u3 (fun v12 => kb_rd (M 1) 10 u1 (fun v13 => kb_rd (M 12) 4 u3 (fun v14 => (if (v12 + v13) ≤ v14 then h_M_load_48 u1 u2 u3 M else h_M_load_8 n u1 u2 (u3 + 1) M))))))
def f_M_load (x1 : Int32) (M0 : Nat → Nat → Int32) : Option (Int32 × (Nat → Nat → Int32)) := kb_cl (f_M_isPiece x1 M0) (fun r1 M2 => h_M_load_8 kb_F x1 r1 (0 : Int32) M2)
set_option maxHeartbeats 4000000 in
set_option maxRecDepth 100000 in
theorem c_M_load (l : Launch) (D : va_G) (A : Nat → Nat) (G : Nat → ClassId) (x1 : Int32) (M0 : Nat → Nat → Int32) (r : Int32) (M' : Nat → Nat → Int32) (sz : Nat) (h : f_M_load x1 M0 = some (r, M')) : kb_Ci l y_M_load (Cond.code y_M_load b_M_load 4 (some .int) :: wsM) { frames := 2, cells := 0, slots := 0, locals := 43 } [.ref (A 0), .int x1] D kcl (tyM G) (wM A G M0) (wM A G M') nnM sz r := by
  refine Met.ofW (cc := b_M_load) (maxL := 4) (ret := (some .int)) (by decide) rfl ?_
  intro p e s m args below meth c s₁ B hml hv
  obtain ⟨rfl, hpre⟩ := hv
  obtain ⟨hw, hN⟩ := kb_enter hpre
  have hx := B.exec
  have hb := B.bytes
  have hr := B.returns
  have hts := atoms_spec (ws := (Cond.code y_M_load b_M_load 4 (some .int) :: wsM)) B.pre
  have htw : ∀ w ∈ wsM, w.before ([.ref (A 0), .int x1] : List Value).toArray s = true := fun w h => hts w (List.mem_cons_of_mem _ h)
  have hown : s.vm.findClass "PileLiftsModel" = some m.cls := findClass_of_methodNamed B.named
  have hlocks := B.notSynchronized
  have loop_90 : ∀ (u1 u3 w0 w1 w2 : Int32) (M : Nat → Nat → Int32) (H : Heap) (locs : List Loc) (ls : Array Slot), h_M_load_90 u1 u3 w0 w1 w2 M = some (r, M') → kb_K D kcl (tyM G) (wM A G M) s (va_A (wM A G M0) sz) H locs → lv_has ls 4 [(0, .ref (A 0)), (1, .int u1), (3, .int u3)] → W p l e (headSpec (Cond.code y_M_load b_M_load 4 (some .int) :: wsM) { frames := 2, cells := 0, slots := 0, locals := 43 }).room s m ([.ref (A 0), .int x1] : List Value).toArray below meth c H locs 0 0 (kb_Qi D kcl (tyM G) (wM A G M0) (wM A G M') sz r below ([.ref (A 0), .int x1] : List Value).toArray s) (F0 m 90 ls [.int w0, .int w1, .int w2, .ref (A 0)]) := by
    intro u1 u3 w0 w1 w2 M H locs ls h hw hl
    rw [h_M_load_90] at h
    obtain ⟨r3, M4, hc, h⟩ := kb_cl_some h
    refine kb_calli0 (va_runV (As := [.int w2, .int w1, .int w0]) (rest := []) ⟨hx, hb, hml, hown, htw⟩ (c_M_goes l D A G w2 w1 w0 M _ _ H.size hc) ⟨(callB_of 3 htw (wsM_self mM_60) rfl rfl rfl (htw _ mM_0) (htw _ mM_58) q_M_goes ⟨by show 0 + 1 ≤ 2; omega, by show 8 + (4 + 11) + 0 ≤ 43; omega⟩), htw _ mM_59, htw _ mM_149⟩ (kb_preV nnM_warm nnM_same hw hN 0 (wM_0 A G _) rfl) rfl rfl hl.1 rfl (lv_room (Nat.le_of_ble_eq_true rfl)) d_M_load_90 ⟨Nat.zero_le _, Nat.zero_le _⟩) hw (fun H locs hw => ?_)
    refine lv_if_ne (tgt := 98) hx hb d_M_load_93 (by decide) (fun c => ?_) (fun c => ?_)
    · have h := kb_in c h
      refine lv_aload_n hx hb d_M_load_98 rfl (lv_at hl 0 rfl) ?_
      refine kb_get (own := "PileLiftsModel") (ref := "PileLiftsModel") (C := R_M) (T := F_M) (N := 22) hx hb htw i_M hown hw 0 (wM_0 A G _) rfl 21 (by decide) (htw _ mM_26) rfl rfl d_M_load_99 ?_
      refine lv_iload_n hx hb d_M_load_102 rfl (lv_at hl 2 rfl) ?_
      refine lv_aload_n hx hb d_M_load_103 rfl (lv_at hl 0 rfl) ?_
      refine kb_get (own := "PileLiftsModel") (ref := "PileLiftsModel") (C := R_M) (T := F_M) (N := 22) hx hb htw i_M hown hw 0 (wM_0 A G _) rfl 21 (by decide) (htw _ mM_26) rfl rfl d_M_load_104 ?_
      refine lv_iload_n hx hb d_M_load_107 rfl (lv_at hl 2 rfl) ?_
      obtain ⟨v5, ev5, hi, h⟩ := kb_rd_some h
      refine kb_ald hx hb hw 13 12 rfl rfl hi ev5 d_M_load_108 ?_
      refine lv_aload_n hx hb d_M_load_109 rfl (lv_at hl 0 rfl) ?_
      refine kb_get (own := "PileLiftsModel") (ref := "PileLiftsModel") (C := R_M) (T := F_M) (N := 22) hx hb htw i_M hown hw 0 (wM_0 A G _) rfl 4 (by decide) (htw _ mM_9) rfl rfl d_M_load_110 ?_
      refine lv_iload_n hx hb d_M_load_113 rfl (lv_at hl 1 rfl) ?_
      obtain ⟨v6, ev6, hi, h⟩ := kb_rd_some h
      refine kb_ald hx hb hw 1 0 rfl rfl hi ev6 d_M_load_114 ?_
      refine lv_iadd hx hb d_M_load_115 ?_
      obtain ⟨M7, eM7, hi, h⟩ := kb_wr_some h
      refine kb_ast (ws' := (wM A G M7)) hx hb hw 13 12 rfl rfl hi d_M_load_116 (by rw [eM7]; rfl) (fun H locs hw => ?_)
      refine lv_aload_n hx hb d_M_load_117 rfl (lv_at hl 0 rfl) ?_
      refine kb_get (own := "PileLiftsModel") (ref := "PileLiftsModel") (C := R_M) (T := F_M) (N := 22) hx hb htw i_M hown hw 0 (wM_0 A G _) rfl 7 (by decide) (htw _ mM_12) rfl rfl d_M_load_118 ?_
      refine lv_iload_n hx hb d_M_load_121 rfl (lv_at hl 1 rfl) ?_
      refine lv_iload_n hx hb d_M_load_122 rfl (lv_at hl 2 rfl) ?_
      obtain ⟨M8, eM8, hi, h⟩ := kb_wr_some h
      refine kb_ast (ws' := (wM A G M8)) hx hb hw 4 3 rfl rfl hi d_M_load_123 (by rw [eM8]; rfl) (fun H locs hw => ?_)
      refine lv_iload_n hx hb d_M_load_124 rfl (lv_at hl 2 rfl) ?_
      obtain ⟨rfl, rfl⟩ := kb_rt h
      exact kb_iret hx hb hr hw hlocks d_M_load_125
    · have h := kb_ip c h
      refine lv_iconst (v := 0) hx hb d_M_load_96 (by decide) ?_
      obtain ⟨rfl, rfl⟩ := kb_rt h
      exact kb_iret hx hb hr hw hlocks d_M_load_97
  have loop_77 : ∀ (u1 u3 w0 w1 : Int32) (M : Nat → Nat → Int32) (H : Heap) (locs : List Loc) (ls : Array Slot), h_M_load_77 u1 u3 w0 w1 M = some (r, M') → kb_K D kcl (tyM G) (wM A G M) s (va_A (wM A G M0) sz) H locs → lv_has ls 4 [(0, .ref (A 0)), (1, .int u1), (3, .int u3)] → W p l e (headSpec (Cond.code y_M_load b_M_load 4 (some .int) :: wsM) { frames := 2, cells := 0, slots := 0, locals := 43 }).room s m ([.ref (A 0), .int x1] : List Value).toArray below meth c H locs 0 0 (kb_Qi D kcl (tyM G) (wM A G M0) (wM A G M') sz r below ([.ref (A 0), .int x1] : List Value).toArray s) (F0 m 77 ls [.int w0, .int w1, .ref (A 0)]) := by
    intro u1 u3 w0 w1 M H locs ls h hw hl
    rw [h_M_load_77] at h
    refine lv_iload_n hx hb d_M_load_77 rfl (lv_at hl 2 rfl) ?_
    refine lv_aload_n hx hb d_M_load_78 rfl (lv_at hl 0 rfl) ?_
    refine kb_get (own := "PileLiftsModel") (ref := "PileLiftsModel") (C := R_M) (T := F_M) (N := 22) hx hb htw i_M hown hw 0 (wM_0 A G _) rfl 19 (by decide) (htw _ mM_24) rfl rfl d_M_load_79 ?_
    refine lv_icmp_ge (tgt := 89) hx hb d_M_load_82 (by decide) (fun c => ?_) (fun c => ?_)
    · have h := kb_ip c h
      refine lv_iconst (v := 0) hx hb d_M_load_89 (by decide) ?_
      exact loop_90 u1 u3 (0 : Int32) w0 w1 M _ _ _ h hw (lv_sub hl [0, 1, 2] rfl)
    · have h := kb_in c h
      refine lv_iconst (v := 1) hx hb d_M_load_85 (by decide) ?_
      refine lv_goto (tgt := 90) hx hb d_M_load_86 (by decide) ?_
      exact loop_90 u1 u3 (1 : Int32) w0 w1 M _ _ _ h hw (lv_sub hl [0, 1, 2] rfl)
  have loop_76 : ∀ (u1 u3 w0 : Int32) (M : Nat → Nat → Int32) (H : Heap) (locs : List Loc) (ls : Array Slot), h_M_load_76 u1 u3 w0 M = some (r, M') → kb_K D kcl (tyM G) (wM A G M) s (va_A (wM A G M0) sz) H locs → lv_has ls 4 [(0, .ref (A 0)), (1, .int u1), (3, .int u3)] → W p l e (headSpec (Cond.code y_M_load b_M_load 4 (some .int) :: wsM) { frames := 2, cells := 0, slots := 0, locals := 43 }).room s m ([.ref (A 0), .int x1] : List Value).toArray below meth c H locs 0 0 (kb_Qi D kcl (tyM G) (wM A G M0) (wM A G M') sz r below ([.ref (A 0), .int x1] : List Value).toArray s) (F0 m 76 ls [.int w0, .ref (A 0)]) := by
    intro u1 u3 w0 M H locs ls h hw hl
    rw [h_M_load_76] at h
    refine lv_iconst (v := 0) hx hb d_M_load_76 (by decide) ?_
    exact loop_77 u1 u3 (0 : Int32) w0 M _ _ _ h hw (lv_sub hl [0, 1, 2] rfl)
  have loop_48 : ∀ (u1 u2 u3 : Int32) (M : Nat → Nat → Int32) (H : Heap) (locs : List Loc) (ls : Array Slot), h_M_load_48 u1 u2 u3 M = some (r, M') → kb_K D kcl (tyM G) (wM A G M) s (va_A (wM A G M0) sz) H locs → lv_has ls 4 [(0, .ref (A 0)), (1, .int u1), (2, .int u2), (3, .int u3)] → W p l e (headSpec (Cond.code y_M_load b_M_load 4 (some .int) :: wsM) { frames := 2, cells := 0, slots := 0, locals := 43 }).room s m ([.ref (A 0), .int x1] : List Value).toArray below meth c H locs 0 0 (kb_Qi D kcl (tyM G) (wM A G M0) (wM A G M') sz r below ([.ref (A 0), .int x1] : List Value).toArray s) (F0 m 48 ls []) := by
    intro u1 u2 u3 M H locs ls h hw hl
    rw [h_M_load_48] at h
    refine lv_aload_n hx hb d_M_load_48 rfl (lv_at hl 0 rfl) ?_
    refine lv_iload_n hx hb d_M_load_49 rfl (lv_at hl 2 rfl) ?_
    refine lv_iload_n hx hb d_M_load_50 rfl (lv_at hl 2 rfl) ?_
    refine lv_if_eq (tgt := 76) hx hb d_M_load_51 (by decide) (fun c => ?_) (fun c => ?_)
    · have h := kb_ip c h
      exact loop_76 u1 u3 u2 M _ _ _ h hw (lv_sub hl [0, 1, 3] rfl)
    · have h := kb_in c h
      refine lv_aload_n hx hb d_M_load_54 rfl (lv_at hl 0 rfl) ?_
      refine lv_iconst (v := 0) hx hb d_M_load_55 (by decide) ?_
      refine lv_iload_n hx hb d_M_load_56 rfl (lv_at hl 1 rfl) ?_
      obtain ⟨r9, M10, hc, h⟩ := kb_cl_some h
      refine kb_calli0 (va_runV (As := [.int (0 : Int32), .int u1]) (rest := [.int u2, .ref (A 0)]) ⟨hx, hb, hml, hown, htw⟩ (c_M_isGone l D A G (0 : Int32) u1 M _ _ H.size hc) ⟨(callB_of 2 htw (wsM_self mM_81) rfl rfl rfl (htw _ mM_0) (htw _ mM_79) q_M_isGone ⟨by show 0 + 1 ≤ 2; omega, by show 8 + (3 + 11) + 0 ≤ 43; omega⟩), htw _ mM_80, htw _ mM_153⟩ (kb_preV nnM_warm nnM_same hw hN 0 (wM_0 A G _) rfl) rfl rfl hl.1 rfl (lv_room (Nat.le_of_ble_eq_true rfl)) d_M_load_57 ⟨Nat.zero_le _, Nat.zero_le _⟩) hw (fun H locs hw => ?_)
      refine lv_if_eq (tgt := 76) hx hb d_M_load_60 (by decide) (fun c => ?_) (fun c => ?_)
      · have h := kb_ip c h
        exact loop_76 u1 u3 u2 M10 _ _ _ h hw (lv_sub hl [0, 1, 3] rfl)
      · have h := kb_in c h
        refine lv_aload_n hx hb d_M_load_63 rfl (lv_at hl 0 rfl) ?_
        refine kb_get (own := "PileLiftsModel") (ref := "PileLiftsModel") (C := R_M) (T := F_M) (N := 22) hx hb htw i_M hown hw 0 (wM_0 A G _) rfl 7 (by decide) (htw _ mM_12) rfl rfl d_M_load_64 ?_
        refine lv_iload_n hx hb d_M_load_67 rfl (lv_at hl 1 rfl) ?_
        obtain ⟨v11, ev11, hi, h⟩ := kb_rd_some h
        refine kb_ald hx hb hw 4 3 rfl rfl hi ev11 d_M_load_68 ?_
        refine lv_if_ge (tgt := 76) hx hb d_M_load_69 (by decide) (fun c => ?_) (fun c => ?_)
        · have h := kb_ip c h
          exact loop_76 u1 u3 u2 M10 _ _ _ h hw (lv_sub hl [0, 1, 3] rfl)
        · have h := kb_in c h
          refine lv_iconst (v := 1) hx hb d_M_load_72 (by decide) ?_
          refine lv_goto (tgt := 77) hx hb d_M_load_73 (by decide) ?_
          exact loop_77 u1 u3 (1 : Int32) u2 M10 _ _ _ h hw (lv_sub hl [0, 1, 3] rfl)
  have loop_8 : ∀ (n8 : Nat) (u1 u2 u3 : Int32) (M : Nat → Nat → Int32) (H : Heap) (locs : List Loc) (ls : Array Slot), h_M_load_8 n8 u1 u2 u3 M = some (r, M') → kb_K D kcl (tyM G) (wM A G M) s (va_A (wM A G M0) sz) H locs → lv_has ls 4 [(0, .ref (A 0)), (1, .int u1), (2, .int u2), (3, .int u3)] → W p l e (headSpec (Cond.code y_M_load b_M_load 4 (some .int) :: wsM) { frames := 2, cells := 0, slots := 0, locals := 43 }).room s m ([.ref (A 0), .int x1] : List Value).toArray below meth c H locs 0 0 (kb_Qi D kcl (tyM G) (wM A G M0) (wM A G M') sz r below ([.ref (A 0), .int x1] : List Value).toArray s) (F0 m 8 ls []) := by
    intro n8
    induction n8 with
    | zero =>
      intro u1 u2 u3 M H locs ls h
      cases h
    | succ n8 ih =>
      intro u1 u2 u3 M H locs ls h hw hl
      rw [h_M_load_8] at h
      refine lv_iload_n hx hb d_M_load_8 rfl (lv_at hl 2 rfl) ?_
      refine lv_if_eq (tgt := 48) hx hb d_M_load_9 (by decide) (fun c => ?_) (fun c => ?_)
      · have h := kb_ip c h
        exact loop_48 u1 u2 u3 M _ _ _ h hw (lv_sub hl [0, 1, 2, 3] rfl)
      · have h := kb_in c h
        refine lv_iload_n hx hb d_M_load_12 rfl (lv_at hl 3 rfl) ?_
        refine lv_aload_n hx hb d_M_load_13 rfl (lv_at hl 0 rfl) ?_
        refine kb_get (own := "PileLiftsModel") (ref := "PileLiftsModel") (C := R_M) (T := F_M) (N := 22) hx hb htw i_M hown hw 0 (wM_0 A G _) rfl 19 (by decide) (htw _ mM_24) rfl rfl d_M_load_14 ?_
        refine lv_icmp_ge (tgt := 48) hx hb d_M_load_17 (by decide) (fun c => ?_) (fun c => ?_)
        · have h := kb_ip c h
          exact loop_48 u1 u2 u3 M _ _ _ h hw (lv_sub hl [0, 1, 2, 3] rfl)
        · have h := kb_in c h
          refine lv_aload_n hx hb d_M_load_20 rfl (lv_at hl 0 rfl) ?_
          refine kb_get (own := "PileLiftsModel") (ref := "PileLiftsModel") (C := R_M) (T := F_M) (N := 22) hx hb htw i_M hown hw 0 (wM_0 A G _) rfl 21 (by decide) (htw _ mM_26) rfl rfl d_M_load_21 ?_
          refine lv_iload_n hx hb d_M_load_24 rfl (lv_at hl 3 rfl) ?_
          obtain ⟨v12, ev12, hi, h⟩ := kb_rd_some h
          refine kb_ald hx hb hw 13 12 rfl rfl hi ev12 d_M_load_25 ?_
          refine lv_aload_n hx hb d_M_load_26 rfl (lv_at hl 0 rfl) ?_
          refine kb_get (own := "PileLiftsModel") (ref := "PileLiftsModel") (C := R_M) (T := F_M) (N := 22) hx hb htw i_M hown hw 0 (wM_0 A G _) rfl 4 (by decide) (htw _ mM_9) rfl rfl d_M_load_27 ?_
          refine lv_iload_n hx hb d_M_load_30 rfl (lv_at hl 1 rfl) ?_
          obtain ⟨v13, ev13, hi, h⟩ := kb_rd_some h
          refine kb_ald hx hb hw 1 0 rfl rfl hi ev13 d_M_load_31 ?_
          refine lv_iadd hx hb d_M_load_32 ?_
          refine lv_aload_n hx hb d_M_load_33 rfl (lv_at hl 0 rfl) ?_
          refine kb_get (own := "PileLiftsModel") (ref := "PileLiftsModel") (C := R_M) (T := F_M) (N := 22) hx hb htw i_M hown hw 0 (wM_0 A G _) rfl 20 (by decide) (htw _ mM_25) rfl rfl d_M_load_34 ?_
          refine lv_iload_n hx hb d_M_load_37 rfl (lv_at hl 3 rfl) ?_
          obtain ⟨v14, ev14, hi, h⟩ := kb_rd_some h
          refine kb_ald hx hb hw 12 11 rfl rfl hi ev14 d_M_load_38 ?_
          refine lv_icmp_le (tgt := 48) hx hb d_M_load_39 (by decide) (fun c => ?_) (fun c => ?_)
          · have h := kb_ip c h
            exact loop_48 u1 u2 u3 M _ _ _ h hw (lv_sub hl [0, 1, 2, 3] rfl)
          · have h := kb_in c h
            refine lv_iinc (v := (u3 + 1)) (lv' := [(3, .int (u3 + 1)), (0, .ref (A 0)), (1, .int u1), (2, .int u2)]) hx hb d_M_load_42 hl (k := 3) rfl rfl (by decide) rfl (fun ls hl => ?_)
            refine lv_goto (tgt := 8) hx hb d_M_load_45 (by decide) ?_
            exact ih u1 u2 (u3 + 1) M _ _ _ h hw (lv_sub hl [1, 2, 3, 0] rfl)
  have hl := lv_entry ([.ref (A 0), .int x1]) (n := 4) (Nat.le_of_ble_eq_true rfl)
  rw [lg_entry_eq]
  generalize (lg_sl ([.ref (A 0), .int x1]) ++ List.replicate (4 - (lg_sl ([.ref (A 0), .int x1])).length) Slot.unset).toArray = ls at hl ⊢
  have hl : lv_has ls 4 [(0, .ref (A 0)), (1, .int x1)] := hl
  rw [f_M_load] at h
  refine lv_aload_n hx hb d_M_load_0 rfl (lv_at hl 0 rfl) ?_
  refine lv_iload_n hx hb d_M_load_1 rfl (lv_at hl 1 rfl) ?_
  obtain ⟨r1, M2, hc, h⟩ := kb_cl_some h
  refine kb_calli0 (va_runV (As := [.int x1]) (rest := []) ⟨hx, hb, hml, hown, htw⟩ (c_M_isPiece l D A G x1 M0 _ _ s.heap.size hc) ⟨(callB_of 1 htw (wsM_self mM_78) rfl rfl rfl (htw _ mM_0) (htw _ mM_76) q_M_isPiece ⟨by show 1 + 1 ≤ 2; omega, by show 8 + (2 + 11) + 22 ≤ 43; omega⟩), htw _ mM_77, htw _ mM_152⟩ (kb_preV nnM_warm nnM_same hw hN 0 (wM_0 A G _) rfl) rfl rfl hl.1 rfl (lv_room (Nat.le_of_ble_eq_true rfl)) d_M_load_2 ⟨Nat.zero_le _, Nat.zero_le _⟩) hw (fun H locs hw => ?_)
  refine lv_istore_n (lv' := [(2, .int r1), (0, .ref (A 0)), (1, .int x1)]) hx hb d_M_load_5 rfl hl (by decide) rfl (fun ls hl => ?_)
  refine lv_iconst (v := 0) hx hb d_M_load_6 (by decide) ?_
  refine lv_istore_n (lv' := [(3, .int (0 : Int32)), (2, .int r1), (0, .ref (A 0)), (1, .int x1)]) hx hb d_M_load_7 rfl hl (by decide) rfl (fun ls hl => ?_)
  exact loop_8 kb_F x1 r1 (0 : Int32) M2 _ _ _ h hw (lv_sub hl [2, 3, 1, 0] rfl)
