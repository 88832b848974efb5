theorem wsX_self {w0 : Cond} (h : w0 ∈ wsC) : GoodIn wsX (w0 :: wsX) := fun w hw => by
  have h1 : w ∈ wsX := (List.mem_cons.mp hw).elim (fun e => e ▸ List.mem_append_left _ h) id
  refine ⟨h1, good_of_word ?_⟩
  rcases List.mem_append.mp h1 with h2 | h2
  · exact List.all_eq_true.mp wsC_good w h2
  · exact List.all_eq_true.mp wsE_good w h2
def x_P_checkPiece (x1 : Int32) (M0 : Nat → Nat → Int32) : Option (Nat × (Nat → Nat → Int32)) := kb_cl (f_Y_hasPiece x1 M0) (fun r1 M2 => (if r1 = (0 : Int32) then some (1, M2) else none))
set_option maxHeartbeats 4000000 in
set_option maxRecDepth 100000 in
theorem xc_P_checkPiece (l : Launch) (hlt : l.stackTraces = false) (D : va_G) (A : Nat → Nat) (G : Nat → ClassId) (x1 : Int32) (M0 : Nat → Nat → Int32) (k : Nat) (M' : Nat → Nat → Int32) (sz : Nat) (h : x_P_checkPiece x1 M0 = some (k, M')) : kb_Cx l y_P_checkPiece (Cond.code y_P_checkPiece b_P_checkPiece 2 none :: wsX) { frames := 8, cells := 1, slots := 6, locals := 120 } [.ref (A 0), .int x1] D kcl (tyC G) (wC A G M0) (wC A G M') (kb_qv (wC A G M0) sz) sz k := by
  refine vx_ofW (cc := b_P_checkPiece) (maxL := 2) (ret := none) (by decide) rfl ?_
  intro p e s m args below meth c s₁ B hml htab hv
  obtain ⟨rfl, hpre⟩ := hv
  obtain ⟨hw, hE⟩ := kb_enter hpre
  have hN := hE.1
  have hx := B.exec
  have hb := B.bytes
  have hts := atoms_spec (ws := (Cond.code y_P_checkPiece b_P_checkPiece 2 none :: wsX)) B.pre
  have htx : ∀ w ∈ wsX, w.before ([.ref (A 0), .int x1] : List Value).toArray s = true := fun w h => hts w (List.mem_cons_of_mem _ h)
  have htw : ∀ w ∈ wsC, w.before ([.ref (A 0), .int x1] : List Value).toArray s = true := fun w h => htx w (List.mem_append_left _ h)
  have hte : ∀ w ∈ wsE, w.before ([.ref (A 0), .int x1] : List Value).toArray s = true := fun w h => htx w (List.mem_append_right _ h)
  have hown : s.vm.findClass "PileLifts" = some m.cls := findClass_of_methodNamed B.named
  have hlocks := B.notSynchronized
  have hl := lv_entry ([.ref (A 0), .int x1]) (n := 2) (Nat.le_of_ble_eq_true rfl)
  rw [lg_entry_eq]
  generalize (lg_sl ([.ref (A 0), .int x1]) ++ List.replicate (2 - (lg_sl ([.ref (A 0), .int x1])).length) Slot.unset).toArray = ls at hl ⊢
  have hl : lv_has ls 2 [(0, .ref (A 0)), (1, .int x1)] := hl
  rw [x_P_checkPiece] at h
  refine lv_aload_n hx hb d_P_checkPiece_0 rfl (lv_at hl 0 rfl) ?_
  refine kb_get (own := "PileLifts") (ref := "PileLifts") (C := R_P) (T := F_P) (N := 3) hx hb htw i_P hown hw 0 (wC_0 A G _) rfl 0 (by decide) (htw _ mC_77) rfl rfl d_P_checkPiece_1 ?_
  refine lv_iload_n hx hb d_P_checkPiece_4 rfl (lv_at hl 1 rfl) ?_
  obtain ⟨r1, M2, hc, h⟩ := kb_cl_some h
  refine kb_calli0 (va_runVN (As := [.int x1]) (rest := []) ⟨hx, hb, hml, hown, htw⟩ (c_Y_hasPiece l D A G x1 M0 _ _ s.heap.size hc) ⟨(va_cnB 1 htw (wsC_self mC_139) rfl rfl rfl (nm_P_188 hN) (htw _ mC_1) q_Y_hasPiece ⟨by show 1 + 1 ≤ 8; omega, by show 8 + (2 + 11) + 22 ≤ 120; omega⟩), htw _ mC_138, htw _ mC_244⟩ (kb_preV nnC_warm nnC_same hw hN 1 (wC_1 A G _) rfl) rfl rfl hl.1 rfl (lv_room (Nat.le_of_ble_eq_true rfl)) d_P_checkPiece_5 ⟨Nat.zero_le _, Nat.zero_le _⟩) hw (fun H locs hw => ?_)
  refine lv_if_ne (tgt := 21) hx hb d_P_checkPiece_8 (by decide) (fun c => ?_) (fun c => ?_)
  · have h := kb_in c h
    cases h
  · have h := kb_ip c h
    obtain ⟨rfl, rfl⟩ := kb_xt h
    exact kb_throw (k := 1) hx hb hlt hown wsE_1_fit (wsE_1_at hte hE.2.1) wsE_1_ot hE (List.mem_of_getElem? (i := 4) rfl) hw (hl.1.trans hml.symm) htab d_P_checkPiece_11 d_P_checkPiece_14 d_P_checkPiece_15 d_P_checkPiece_17 d_P_checkPiece_20 ⟨by decide, by show _ + 82 ≤ 120; decide, by decide, by decide⟩ hlocks
def x_P_checkPlan (M0 : Nat → Nat → Int32) : Option (Nat × (Nat → Nat → Int32)) := (if (M0 2 2) = (0 : Int32) then some (2, M0) else none)
set_option maxHeartbeats 4000000 in
set_option maxRecDepth 100000 in
theorem xc_P_checkPlan (l : Launch) (hlt : l.stackTraces = false) (D : va_G) (A : Nat → Nat) (G : Nat → ClassId) (M0 : Nat → Nat → Int32) (k : Nat) (M' : Nat → Nat → Int32) (sz : Nat) (h : x_P_checkPlan M0 = some (k, M')) : kb_Cx l y_P_checkPlan (Cond.code y_P_checkPlan b_P_checkPlan 1 none :: wsX) { frames := 8, cells := 1, slots := 6, locals := 120 } [.ref (A 0)] D kcl (tyC G) (wC A G M0) (wC A G M') (kb_qv (wC A G M0) sz) sz k := by
  refine vx_ofW (cc := b_P_checkPlan) (maxL := 1) (ret := none) (by decide) rfl ?_
  intro p e s m args below meth c s₁ B hml htab hv
  obtain ⟨rfl, hpre⟩ := hv
  obtain ⟨hw, hE⟩ := kb_enter hpre
  have hN := hE.1
  have hx := B.exec
  have hb := B.bytes
  have hts := atoms_spec (ws := (Cond.code y_P_checkPlan b_P_checkPlan 1 none :: wsX)) B.pre
  have htx : ∀ w ∈ wsX, w.before ([.ref (A 0)] : List Value).toArray s = true := fun w h => hts w (List.mem_cons_of_mem _ h)
  have htw : ∀ w ∈ wsC, w.before ([.ref (A 0)] : List Value).toArray s = true := fun w h => htx w (List.mem_append_left _ h)
  have hte : ∀ w ∈ wsE, w.before ([.ref (A 0)] : List Value).toArray s = true := fun w h => htx w (List.mem_append_right _ h)
  have hown : s.vm.findClass "PileLifts" = some m.cls := findClass_of_methodNamed B.named
  have hlocks := B.notSynchronized
  have hl := lv_entry ([.ref (A 0)]) (n := 1) (Nat.le_of_ble_eq_true rfl)
  rw [lg_entry_eq]
  generalize (lg_sl ([.ref (A 0)]) ++ List.replicate (1 - (lg_sl ([.ref (A 0)])).length) Slot.unset).toArray = ls at hl ⊢
  have hl : lv_has ls 1 [(0, .ref (A 0))] := hl
  rw [x_P_checkPlan] at h
  refine lv_aload_n hx hb d_P_checkPlan_0 rfl (lv_at hl 0 rfl) ?_
  refine kb_get (own := "PileLifts") (ref := "PileLifts") (C := R_P) (T := F_P) (N := 3) hx hb htw i_P hown hw 0 (wC_0 A G _) rfl 1 (by decide) (htw _ mC_78) rfl rfl d_P_checkPlan_1 ?_
  refine kb_getN (own := "PileLifts") (ref := "PileLifts$Search") (C := R_S) (T := F_S) (N := 10) hx hb htw i_S hown hw 2 (wC_2 A G _) rfl 2 (by decide) (va_Nw.use rfl (nf_P_193 hN)) rfl rfl d_P_checkPlan_4 ?_
  refine lv_if_ne (tgt := 20) hx hb d_P_checkPlan_7 (by decide) (fun c => ?_) (fun c => ?_)
  · have h := kb_in c h
    cases h
  · have h := kb_ip c h
    obtain ⟨rfl, rfl⟩ := kb_xt h
    exact kb_throw (k := 2) hx hb hlt hown wsE_2_fit (wsE_2_at hte hE.2.1) wsE_2_ot hE (List.mem_of_getElem? (i := 9) rfl) hw (hl.1.trans hml.symm) htab d_P_checkPlan_10 d_P_checkPlan_13 d_P_checkPlan_14 d_P_checkPlan_16 d_P_checkPlan_19 ⟨by decide, by show _ + 82 ≤ 120; decide, by decide, by decide⟩ hlocks
def x_P_piles (x1 x2 : Int32) (M0 : Nat → Nat → Int32) : Option (Nat × (Nat → Nat → Int32)) := kb_cl (f_P_isWithin x1 (1 : Int32) (4 : Int32) M0) (fun r1 M2 => (if r1 = (0 : Int32) then some (3, M2) else kb_cl (f_P_isWithin x2 (1 : Int32) (5 : Int32) M2) (fun r3 M4 => (if r3 = (0 : Int32) then some (3, M4) else none))))
set_option maxHeartbeats 4000000 in
set_option maxRecDepth 100000 in
theorem xc_P_piles (l : Launch) (hlt : l.stackTraces = false) (D : va_G) (A : Nat → Nat) (G : Nat → ClassId) (x1 x2 : Int32) (M0 : Nat → Nat → Int32) (k : Nat) (M' : Nat → Nat → Int32) (sz : Nat) (h : x_P_piles x1 x2 M0 = some (k, M')) : kb_Cx l y_P_piles (Cond.code y_P_piles b_P_piles 3 none :: wsX) { frames := 8, cells := 1, slots := 6, locals := 120 } [.ref (A 0), .int x1, .int x2] D kcl (tyC G) (wC A G M0) (wC A G M') (kb_qv (wC A G M0) sz) sz k := by
  refine vx_ofW (cc := b_P_piles) (maxL := 3) (ret := none) (by decide) rfl ?_
  intro p e s m args below meth c s₁ B hml htab hv
  obtain ⟨rfl, hpre⟩ := hv
  obtain ⟨hw, hE⟩ := kb_enter hpre
  have hN := hE.1
  have hx := B.exec
  have hb := B.bytes
  have hts := atoms_spec (ws := (Cond.code y_P_piles b_P_piles 3 none :: wsX)) B.pre
  have htx : ∀ w ∈ wsX, w.before ([.ref (A 0), .int x1, .int x2] : List Value).toArray s = true := fun w h => hts w (List.mem_cons_of_mem _ h)
  have htw : ∀ w ∈ wsC, w.before ([.ref (A 0), .int x1, .int x2] : List Value).toArray s = true := fun w h => htx w (List.mem_append_left _ h)
  have hte : ∀ w ∈ wsE, w.before ([.ref (A 0), .int x1, .int x2] : List Value).toArray s = true := fun w h => htx w (List.mem_append_right _ h)
  have hown : s.vm.findClass "PileLifts" = some m.cls := findClass_of_methodNamed B.named
  have hlocks := B.notSynchronized
  have hl := lv_entry ([.ref (A 0), .int x1, .int x2]) (n := 3) (Nat.le_of_ble_eq_true rfl)
  rw [lg_entry_eq]
  generalize (lg_sl ([.ref (A 0), .int x1, .int x2]) ++ List.replicate (3 - (lg_sl ([.ref (A 0), .int x1, .int x2])).length) Slot.unset).toArray = ls at hl ⊢
  have hl : lv_has ls 3 [(0, .ref (A 0)), (1, .int x1), (2, .int x2)] := hl
  rw [x_P_piles] at h
  refine lv_iload_n hx hb d_P_piles_0 rfl (lv_at hl 1 rfl) ?_
  refine lv_iconst (v := 1) hx hb d_P_piles_1 (by decide) ?_
  refine lv_iconst (v := 4) hx hb d_P_piles_2 (by decide) ?_
  obtain ⟨r1, M2, hc, h⟩ := kb_cl_some h
  refine kb_calli0 (va_runS (As := [.int x1, .int (1 : Int32), .int (4 : Int32)]) (rest := []) ⟨hx, hb, hml, hown, htw⟩ (c_P_isWithin l D A G x1 (1 : Int32) (4 : Int32) M0 _ _ s.heap.size hc) ⟨(callB_of 3 htw (wsC_self mC_108) rfl rfl rfl (htw _ mC_0) (htw _ mC_106) q_P_isWithin ⟨by show 0 + 1 ≤ 8; omega, by show 8 + (3 + 11) + 0 ≤ 120; omega⟩), htw _ mC_107⟩ (kb_preS nnC_warm nnC_same hw hN ) rfl rfl hl.1 rfl (lv_room (Nat.le_of_ble_eq_true rfl)) d_P_piles_3 ⟨Nat.zero_le _, Nat.zero_le _⟩) hw (fun H locs hw => ?_)
  refine lv_if_eq (tgt := 18) hx hb d_P_piles_6 (by decide) (fun c => ?_) (fun c => ?_)
  · have h := kb_ip c h
    obtain ⟨rfl, rfl⟩ := kb_xt h
    exact kb_throw (k := 3) hx hb hlt hown wsE_3_fit (wsE_3_at hte hE.2.1) wsE_3_ot hE (List.mem_of_getElem? (i := 0) rfl) hw (hl.1.trans hml.symm) htab d_P_piles_18 d_P_piles_21 d_P_piles_22 d_P_piles_24 d_P_piles_27 ⟨by decide, by show _ + 82 ≤ 120; decide, by decide, by decide⟩ hlocks
  · have h := kb_in c h
    refine lv_iload_n hx hb d_P_piles_9 rfl (lv_at hl 2 rfl) ?_
    refine lv_iconst (v := 1) hx hb d_P_piles_10 (by decide) ?_
    refine lv_iconst (v := 5) hx hb d_P_piles_11 (by decide) ?_
    obtain ⟨r3, M4, hc, h⟩ := kb_cl_some h
    refine kb_calli0 (va_runS (As := [.int x2, .int (1 : Int32), .int (5 : Int32)]) (rest := []) ⟨hx, hb, hml, hown, htw⟩ (c_P_isWithin l D A G x2 (1 : Int32) (5 : Int32) M2 _ _ H.size hc) ⟨(callB_of 3 htw (wsC_self mC_108) rfl rfl rfl (htw _ mC_0) (htw _ mC_106) q_P_isWithin ⟨by show 0 + 1 ≤ 8; omega, by show 8 + (3 + 11) + 0 ≤ 120; omega⟩), htw _ mC_107⟩ (kb_preS nnC_warm nnC_same hw hN ) rfl rfl hl.1 rfl (lv_room (Nat.le_of_ble_eq_true rfl)) d_P_piles_12 ⟨Nat.zero_le _, Nat.zero_le _⟩) hw (fun H locs hw => ?_)
    refine lv_if_ne (tgt := 28) hx hb d_P_piles_15 (by decide) (fun c => ?_) (fun c => ?_)
    · have h := kb_in c h
      cases h
    · have h := kb_ip c h
      obtain ⟨rfl, rfl⟩ := kb_xt h
      exact kb_throw (k := 3) hx hb hlt hown wsE_3_fit (wsE_3_at hte hE.2.1) wsE_3_ot hE (List.mem_of_getElem? (i := 0) rfl) hw (hl.1.trans hml.symm) htab d_P_piles_18 d_P_piles_21 d_P_piles_22 d_P_piles_24 d_P_piles_27 ⟨by decide, by show _ + 82 ≤ 120; decide, by decide, by decide⟩ hlocks
def x_P_put (x1 x2 x3 : Int32) (M0 : Nat → Nat → Int32) : Option (Nat × (Nat → Nat → Int32)) := kb_cl (f_Y_hasPile x1 M0) (fun r1 M2 => (if r1 = (0 : Int32) then some (1, M2) else kb_cl (f_P_isWithin x2 (1 : Int32) (1000 : Int32) M2) (fun r3 M4 => (if r3 = (0 : Int32) then some (3, M4) else kb_cl (f_P_isWithin x3 (1 : Int32) (100 : Int32) M4) (fun r5 M6 => (if r5 = (0 : Int32) then some (3, M6) else (if (10 : Int32) ≤ (M6 1 2) then some (4, M6) else kb_cl (f_Y_takes x1 x3 M6) (fun r7 M8 => (if r7 = (0 : Int32) then some (4, M8) else none)))))))))
set_option maxHeartbeats 4000000 in
set_option maxRecDepth 100000 in
theorem xc_P_put (l : Launch) (hlt : l.stackTraces = false) (D : va_G) (A : Nat → Nat) (G : Nat → ClassId) (x1 x2 x3 : Int32) (M0 : Nat → Nat → Int32) (k : Nat) (M' : Nat → Nat → Int32) (sz : Nat) (h : x_P_put x1 x2 x3 M0 = some (k, M')) : kb_Cx l y_P_put (Cond.code y_P_put b_P_put 4 (some .int) :: wsX) { frames := 8, cells := 1, slots := 6, locals := 120 } [.ref (A 0), .int x1, .int x2, .int x3] D kcl (tyC G) (wC A G M0) (wC A G M') (kb_qi (wC A G M0) sz) sz k := by
  refine vx_ofW (cc := b_P_put) (maxL := 4) (ret := (some .int)) (by decide) rfl ?_
  intro p e s m args below meth c s₁ B hml htab hv
  obtain ⟨rfl, hpre⟩ := hv
  obtain ⟨hw, hE⟩ := kb_enter hpre
  have hN := hE.1
  have hx := B.exec
  have hb := B.bytes
  have hts := atoms_spec (ws := (Cond.code y_P_put b_P_put 4 (some .int) :: wsX)) B.pre
  have htx : ∀ w ∈ wsX, w.before ([.ref (A 0), .int x1, .int x2, .int x3] : List Value).toArray s = true := fun w h => hts w (List.mem_cons_of_mem _ h)
  have htw : ∀ w ∈ wsC, w.before ([.ref (A 0), .int x1, .int x2, .int x3] : List Value).toArray s = true := fun w h => htx w (List.mem_append_left _ h)
  have hte : ∀ w ∈ wsE, w.before ([.ref (A 0), .int x1, .int x2, .int x3] : List Value).toArray s = true := fun w h => htx w (List.mem_append_right _ h)
  have hown : s.vm.findClass "PileLifts" = some m.cls := findClass_of_methodNamed B.named
  have hlocks := B.notSynchronized
  have hl := lv_entry ([.ref (A 0), .int x1, .int x2, .int x3]) (n := 4) (Nat.le_of_ble_eq_true rfl)
  rw [lg_entry_eq]
  generalize (lg_sl ([.ref (A 0), .int x1, .int x2, .int x3]) ++ List.replicate (4 - (lg_sl ([.ref (A 0), .int x1, .int x2, .int x3])).length) Slot.unset).toArray = ls at hl ⊢
  have hl : lv_has ls 4 [(0, .ref (A 0)), (1, .int x1), (2, .int x2), (3, .int x3)] := hl
  rw [x_P_put] at h
  refine lv_aload_n hx hb d_P_put_0 rfl (lv_at hl 0 rfl) ?_
  refine kb_get (own := "PileLifts") (ref := "PileLifts") (C := R_P) (T := F_P) (N := 3) hx hb htw i_P hown hw 0 (wC_0 A G _) rfl 0 (by decide) (htw _ mC_77) rfl rfl d_P_put_1 ?_
  refine lv_iload_n hx hb d_P_put_4 rfl (lv_at hl 1 rfl) ?_
  obtain ⟨r1, M2, hc, h⟩ := kb_cl_some h
  refine kb_calli0 (va_runVN (As := [.int x1]) (rest := []) ⟨hx, hb, hml, hown, htw⟩ (c_Y_hasPile l D A G x1 M0 _ _ s.heap.size hc) ⟨(va_cnB 1 htw (wsC_self mC_117) rfl rfl rfl (nm_P_50 hN) (htw _ mC_1) q_Y_hasPile ⟨by show 1 + 1 ≤ 8; omega, by show 8 + (2 + 11) + 22 ≤ 120; omega⟩), htw _ mC_116, htw _ mC_238⟩ (kb_preV nnC_warm nnC_same hw hN 1 (wC_1 A G _) rfl) rfl rfl hl.1 rfl (lv_room (Nat.le_of_ble_eq_true rfl)) d_P_put_5 ⟨Nat.zero_le _, Nat.zero_le _⟩) hw (fun H locs hw => ?_)
  refine lv_if_ne (tgt := 21) hx hb d_P_put_8 (by decide) (fun c => ?_) (fun c => ?_)
  · have h := kb_in c h
    refine lv_iload_n hx hb d_P_put_21 rfl (lv_at hl 2 rfl) ?_
    refine lv_iconst (v := 1) hx hb d_P_put_22 (by decide) ?_
    refine lv_sipush (v := 1000) hx hb d_P_put_23 (by decide) ?_
    obtain ⟨r3, M4, hc, h⟩ := kb_cl_some h
    refine kb_calli0 (va_runS (As := [.int x2, .int (1 : Int32), .int (1000 : Int32)]) (rest := []) ⟨hx, hb, hml, hown, htw⟩ (c_P_isWithin l D A G x2 (1 : Int32) (1000 : Int32) M2 _ _ H.size hc) ⟨(callB_of 3 htw (wsC_self mC_108) rfl rfl rfl (htw _ mC_0) (htw _ mC_106) q_P_isWithin ⟨by show 0 + 1 ≤ 8; omega, by show 8 + (3 + 11) + 0 ≤ 120; omega⟩), htw _ mC_107⟩ (kb_preS nnC_warm nnC_same hw hN ) rfl rfl hl.1 rfl (lv_room (Nat.le_of_ble_eq_true rfl)) d_P_put_26 ⟨Nat.zero_le _, Nat.zero_le _⟩) hw (fun H locs hw => ?_)
    refine lv_if_eq (tgt := 42) hx hb d_P_put_29 (by decide) (fun c => ?_) (fun c => ?_)
    · have h := kb_ip c h
      obtain ⟨rfl, rfl⟩ := kb_xt h
      exact kb_throw (k := 3) hx hb hlt hown wsE_3_fit (wsE_3_at hte hE.2.1) wsE_3_ot hE (List.mem_of_getElem? (i := 2) rfl) hw (hl.1.trans hml.symm) htab d_P_put_42 d_P_put_45 d_P_put_46 d_P_put_48 d_P_put_51 ⟨by decide, by show _ + 82 ≤ 120; decide, by decide, by decide⟩ hlocks
    · have h := kb_in c h
      refine lv_iload_n hx hb d_P_put_32 rfl (lv_at hl 3 rfl) ?_
      refine lv_iconst (v := 1) hx hb d_P_put_33 (by decide) ?_
      refine lv_bipush (v := 100) hx hb d_P_put_34 (by decide) ?_
      obtain ⟨r5, M6, hc, h⟩ := kb_cl_some h
      refine kb_calli0 (va_runS (As := [.int x3, .int (1 : Int32), .int (100 : Int32)]) (rest := []) ⟨hx, hb, hml, hown, htw⟩ (c_P_isWithin l D A G x3 (1 : Int32) (100 : Int32) M4 _ _ H.size hc) ⟨(callB_of 3 htw (wsC_self mC_108) rfl rfl rfl (htw _ mC_0) (htw _ mC_106) q_P_isWithin ⟨by show 0 + 1 ≤ 8; omega, by show 8 + (3 + 11) + 0 ≤ 120; omega⟩), htw _ mC_107⟩ (kb_preS nnC_warm nnC_same hw hN ) rfl rfl hl.1 rfl (lv_room (Nat.le_of_ble_eq_true rfl)) d_P_put_36 ⟨Nat.zero_le _, Nat.zero_le _⟩) hw (fun H locs hw => ?_)
      refine lv_if_ne (tgt := 52) hx hb d_P_put_39 (by decide) (fun c => ?_) (fun c => ?_)
      · have h := kb_in c h
        refine lv_aload_n hx hb d_P_put_52 rfl (lv_at hl 0 rfl) ?_
        refine kb_get (own := "PileLifts") (ref := "PileLifts") (C := R_P) (T := F_P) (N := 3) hx hb htw i_P hown hw 0 (wC_0 A G _) rfl 0 (by decide) (htw _ mC_77) rfl rfl d_P_put_53 ?_
        refine kb_getN (own := "PileLifts") (ref := "PileLifts$Yard") (C := R_Y) (T := F_Y) (N := 10) hx hb htw i_Y hown hw 1 (wC_1 A G _) rfl 2 (by decide) (va_Nw.use rfl (nf_P_61 hN)) rfl rfl d_P_put_56 ?_
        refine lv_bipush (v := 10) hx hb d_P_put_59 (by decide) ?_
        refine lv_icmp_ge (tgt := 76) hx hb d_P_put_61 (by decide) (fun c => ?_) (fun c => ?_)
        · have h := kb_ip c h
          obtain ⟨rfl, rfl⟩ := kb_xt h
          exact kb_throw (k := 4) hx hb hlt hown wsE_4_fit (wsE_4_at hte hE.2.1) wsE_4_ot hE (List.mem_of_getElem? (i := 3) rfl) hw (hl.1.trans hml.symm) htab d_P_put_76 d_P_put_79 d_P_put_80 d_P_put_82 d_P_put_85 ⟨by decide, by show _ + 82 ≤ 120; decide, by decide, by decide⟩ hlocks
        · have h := kb_in c h
          refine lv_aload_n hx hb d_P_put_64 rfl (lv_at hl 0 rfl) ?_
          refine kb_get (own := "PileLifts") (ref := "PileLifts") (C := R_P) (T := F_P) (N := 3) hx hb htw i_P hown hw 0 (wC_0 A G _) rfl 0 (by decide) (htw _ mC_77) rfl rfl d_P_put_65 ?_
          refine lv_iload_n hx hb d_P_put_68 rfl (lv_at hl 1 rfl) ?_
          refine lv_iload_n hx hb d_P_put_69 rfl (lv_at hl 3 rfl) ?_
          obtain ⟨r7, M8, hc, h⟩ := kb_cl_some h
          refine kb_calli0 (va_runVN (As := [.int x1, .int x3]) (rest := []) ⟨hx, hb, hml, hown, htw⟩ (c_Y_takes l D A G x1 x3 M6 _ _ H.size hc) ⟨(va_cnB 2 htw (wsC_self mC_121) rfl rfl rfl (nm_P_65 hN) (htw _ mC_1) q_Y_takes ⟨by show 2 + 1 ≤ 8; omega, by show 8 + (4 + 11) + 43 ≤ 120; omega⟩), htw _ mC_120, htw _ mC_239⟩ (kb_preV nnC_warm nnC_same hw hN 1 (wC_1 A G _) rfl) rfl rfl hl.1 rfl (lv_room (Nat.le_of_ble_eq_true rfl)) d_P_put_70 ⟨Nat.zero_le _, Nat.zero_le _⟩) hw (fun H locs hw => ?_)
          refine lv_if_ne (tgt := 86) hx hb d_P_put_73 (by decide) (fun c => ?_) (fun c => ?_)
          · have h := kb_in c h
            cases h
          · have h := kb_ip c h
            obtain ⟨rfl, rfl⟩ := kb_xt h
            exact kb_throw (k := 4) hx hb hlt hown wsE_4_fit (wsE_4_at hte hE.2.1) wsE_4_ot hE (List.mem_of_getElem? (i := 3) rfl) hw (hl.1.trans hml.symm) htab d_P_put_76 d_P_put_79 d_P_put_80 d_P_put_82 d_P_put_85 ⟨by decide, by show _ + 82 ≤ 120; decide, by decide, by decide⟩ hlocks
      · have h := kb_ip c h
        obtain ⟨rfl, rfl⟩ := kb_xt h
        exact kb_throw (k := 3) hx hb hlt hown wsE_3_fit (wsE_3_at hte hE.2.1) wsE_3_ot hE (List.mem_of_getElem? (i := 2) rfl) hw (hl.1.trans hml.symm) htab d_P_put_42 d_P_put_45 d_P_put_46 d_P_put_48 d_P_put_51 ⟨by decide, by show _ + 82 ≤ 120; decide, by decide, by decide⟩ hlocks
  · have h := kb_ip c h
    obtain ⟨rfl, rfl⟩ := kb_xt h
    exact kb_throw (k := 1) hx hb hlt hown wsE_1_fit (wsE_1_at hte hE.2.1) wsE_1_ot hE (List.mem_of_getElem? (i := 1) rfl) hw (hl.1.trans hml.symm) htab d_P_put_11 d_P_put_14 d_P_put_15 d_P_put_17 d_P_put_20 ⟨by decide, by show _ + 82 ≤ 120; decide, by decide, by decide⟩ hlocks
def x_P_want (x1 x2 : Int32) (M0 : Nat → Nat → Int32) : Option (Nat × (Nat → Nat → Int32)) := kb_xc (x_P_checkPiece x1 M0) (kb_cl (f_P_checkPiece x1 M0) (fun r1 M2 => kb_cl (f_Y_isGone x1 M2) (fun r3 M4 => (if r3 = (0 : Int32) then kb_cl (f_P_isWithin x2 (-1 : Int32) (99 : Int32) M4) (fun r5 M6 => (if r5 = (0 : Int32) then some (3, M6) else none)) else some (2, M4)))))
set_option maxHeartbeats 4000000 in
set_option maxRecDepth 100000 in
theorem xc_P_want (l : Launch) (hlt : l.stackTraces = false) (D : va_G) (A : Nat → Nat) (G : Nat → ClassId) (x1 x2 : Int32) (M0 : Nat → Nat → Int32) (k : Nat) (M' : Nat → Nat → Int32) (sz : Nat) (h : x_P_want x1 x2 M0 = some (k, M')) : kb_Cx l y_P_want (Cond.code y_P_want b_P_want 3 none :: wsX) { frames := 9, cells := 1, slots := 6, locals := 141 } [.ref (A 0), .int x1, .int x2] D kcl (tyC G) (wC A G M0) (wC A G M') (kb_qv (wC A G M0) sz) sz k := by
  refine vx_ofW (cc := b_P_want) (maxL := 3) (ret := none) (by decide) rfl ?_
  intro p e s m args below meth c s₁ B hml htab hv
  obtain ⟨rfl, hpre⟩ := hv
  obtain ⟨hw, hE⟩ := kb_enter hpre
  have hN := hE.1
  have hx := B.exec
  have hb := B.bytes
  have hts := atoms_spec (ws := (Cond.code y_P_want b_P_want 3 none :: wsX)) B.pre
  have htx : ∀ w ∈ wsX, w.before ([.ref (A 0), .int x1, .int x2] : List Value).toArray s = true := fun w h => hts w (List.mem_cons_of_mem _ h)
  have htw : ∀ w ∈ wsC, w.before ([.ref (A 0), .int x1, .int x2] : List Value).toArray s = true := fun w h => htx w (List.mem_append_left _ h)
  have hte : ∀ w ∈ wsE, w.before ([.ref (A 0), .int x1, .int x2] : List Value).toArray s = true := fun w h => htx w (List.mem_append_right _ h)
  have hown : s.vm.findClass "PileLifts" = some m.cls := findClass_of_methodNamed B.named
  have hlocks := B.notSynchronized
  have hl := lv_entry ([.ref (A 0), .int x1, .int x2]) (n := 3) (Nat.le_of_ble_eq_true rfl)
  rw [lg_entry_eq]
  generalize (lg_sl ([.ref (A 0), .int x1, .int x2]) ++ List.replicate (3 - (lg_sl ([.ref (A 0), .int x1, .int x2])).length) Slot.unset).toArray = ls at hl ⊢
  have hl : lv_has ls 3 [(0, .ref (A 0)), (1, .int x1), (2, .int x2)] := hl
  rw [x_P_want] at h
  refine lv_aload_n hx hb d_P_want_0 rfl (lv_at hl 0 rfl) ?_
  refine lv_iload_n hx hb d_P_want_1 rfl (lv_at hl 1 rfl) ?_
  rcases kb_xc_some h with hc | h
  · exact kb_thruv (vx_runV (As := [.int x1]) (rest := []) ⟨hx, hb, hml, hown, htx⟩ (xc_P_checkPiece l hlt D A G x1 M0 _ _ s.heap.size hc) ⟨callB_of 1 htx (wsX_self mC_137) rfl rfl rfl (htw _ mC_0) (htw _ mC_135) q_P_checkPiece ⟨by show 8 + 1 ≤ 9; omega, by show 8 + (2 + 11) + 120 ≤ 141; omega⟩, htw _ mC_136, htw _ mC_243⟩ (kb_preVx hw hE 0 (wC_0 A G _) rfl) rfl rfl hl.1 rfl (lv_room (Nat.le_of_ble_eq_true rfl)) d_P_want_2 ⟨Nat.le_refl 1, Nat.le_refl 6⟩) hw htab hlocks
  · obtain ⟨r1, M2, hc, h⟩ := kb_cl_some h
    refine kb_callv0 (va_runV (As := [.int x1]) (rest := []) ⟨hx, hb, hml, hown, htw⟩ (c_P_checkPiece l D A G x1 M0 _ _ s.heap.size hc) ⟨(callB_of 1 htw (wsC_self mC_137) rfl rfl rfl (htw _ mC_0) (htw _ mC_135) q_P_checkPiece ⟨by show 2 + 1 ≤ 9; omega, by show 8 + (2 + 11) + 43 ≤ 141; omega⟩), htw _ mC_136, htw _ mC_243⟩ (kb_preV nnC_warm nnC_same hw hN 0 (wC_0 A G _) rfl) rfl rfl hl.1 rfl (lv_room (Nat.le_of_ble_eq_true rfl)) d_P_want_2 ⟨Nat.zero_le _, Nat.zero_le _⟩) hw (fun H locs hw => ?_)
    refine lv_aload_n hx hb d_P_want_5 rfl (lv_at hl 0 rfl) ?_
    refine kb_get (own := "PileLifts") (ref := "PileLifts") (C := R_P) (T := F_P) (N := 3) hx hb htw i_P hown hw 0 (wC_0 A G _) rfl 0 (by decide) (htw _ mC_77) rfl rfl d_P_want_6 ?_
    refine lv_iload_n hx hb d_P_want_9 rfl (lv_at hl 1 rfl) ?_
    obtain ⟨r3, M4, hc, h⟩ := kb_cl_some h
    refine kb_calli0 (va_runVN (As := [.int x1]) (rest := []) ⟨hx, hb, hml, hown, htw⟩ (c_Y_isGone l D A G x1 M2 _ _ H.size hc) ⟨(va_cnB 1 htw (wsC_self mC_93) rfl rfl rfl (nm_P_82 hN) (htw _ mC_1) q_Y_isGone ⟨by show 0 + 1 ≤ 9; omega, by show 8 + (2 + 11) + 0 ≤ 141; omega⟩), htw _ mC_92, htw _ mC_233⟩ (kb_preV nnC_warm nnC_same hw hN 1 (wC_1 A G _) rfl) rfl rfl hl.1 rfl (lv_room (Nat.le_of_ble_eq_true rfl)) d_P_want_10 ⟨Nat.zero_le _, Nat.zero_le _⟩) hw (fun H locs hw => ?_)
    refine lv_if_eq (tgt := 26) hx hb d_P_want_13 (by decide) (fun c => ?_) (fun c => ?_)
    · have h := kb_ip c h
      refine lv_iload_n hx hb d_P_want_26 rfl (lv_at hl 2 rfl) ?_
      refine lv_iconst (v := -1) hx hb d_P_want_27 (by decide) ?_
      refine lv_bipush (v := 99) hx hb d_P_want_28 (by decide) ?_
      obtain ⟨r5, M6, hc, h⟩ := kb_cl_some h
      refine kb_calli0 (va_runS (As := [.int x2, .int (-1 : Int32), .int (99 : Int32)]) (rest := []) ⟨hx, hb, hml, hown, htw⟩ (c_P_isWithin l D A G x2 (-1 : Int32) (99 : Int32) M4 _ _ H.size hc) ⟨(callB_of 3 htw (wsC_self mC_108) rfl rfl rfl (htw _ mC_0) (htw _ mC_106) q_P_isWithin ⟨by show 0 + 1 ≤ 9; omega, by show 8 + (3 + 11) + 0 ≤ 141; omega⟩), htw _ mC_107⟩ (kb_preS nnC_warm nnC_same hw hN ) rfl rfl hl.1 rfl (lv_room (Nat.le_of_ble_eq_true rfl)) d_P_want_30 ⟨Nat.zero_le _, Nat.zero_le _⟩) hw (fun H locs hw => ?_)
      refine lv_if_ne (tgt := 46) hx hb d_P_want_33 (by decide) (fun c => ?_) (fun c => ?_)
      · have h := kb_in c h
        cases h
      · have h := kb_ip c h
        obtain ⟨rfl, rfl⟩ := kb_xt h
        exact kb_throw (k := 3) hx hb hlt hown wsE_3_fit (wsE_3_at hte hE.2.1) wsE_3_ot hE (List.mem_of_getElem? (i := 6) rfl) hw (hl.1.trans hml.symm) htab d_P_want_36 d_P_want_39 d_P_want_40 d_P_want_42 d_P_want_45 ⟨by decide, by show _ + 82 ≤ 141; decide, by decide, by decide⟩ hlocks
    · have h := kb_in c h
      obtain ⟨rfl, rfl⟩ := kb_xt h
      exact kb_throw (k := 2) hx hb hlt hown wsE_2_fit (wsE_2_at hte hE.2.1) wsE_2_ot hE (List.mem_of_getElem? (i := 5) rfl) hw (hl.1.trans hml.symm) htab d_P_want_16 d_P_want_19 d_P_want_20 d_P_want_22 d_P_want_25 ⟨by decide, by show _ + 82 ≤ 141; decide, by decide, by decide⟩ hlocks
def x_P_may (x1 x2 : Int32) (M0 : Nat → Nat → Int32) : Option (Nat × (Nat → Nat → Int32)) := kb_xc (x_P_checkPiece x1 M0) (kb_cl (f_P_checkPiece x1 M0) (fun r1 M2 => kb_xc (x_P_checkPiece x2 M2) (kb_cl (f_P_checkPiece x2 M2) (fun r3 M4 => none))))
set_option maxHeartbeats 4000000 in
set_option maxRecDepth 100000 in
theorem xc_P_may (l : Launch) (hlt : l.stackTraces = false) (D : va_G) (A : Nat → Nat) (G : Nat → ClassId) (x1 x2 : Int32) (M0 : Nat → Nat → Int32) (k : Nat) (M' : Nat → Nat → Int32) (sz : Nat) (h : x_P_may x1 x2 M0 = some (k, M')) : kb_Cx l y_P_may (Cond.code y_P_may b_P_may 3 (some .boolean) :: wsX) { frames := 9, cells := 1, slots := 6, locals := 141 } [.ref (A 0), .int x1, .int x2] D kcl (tyC G) (wC A G M0) (wC A G M') (kb_qi (wC A G M0) sz) sz k := by
  refine vx_ofW (cc := b_P_may) (maxL := 3) (ret := (some .boolean)) (by decide) rfl ?_
  intro p e s m args below meth c s₁ B hml htab hv
  obtain ⟨rfl, hpre⟩ := hv
  obtain ⟨hw, hE⟩ := kb_enter hpre
  have hN := hE.1
  have hx := B.exec
  have hb := B.bytes
  have hts := atoms_spec (ws := (Cond.code y_P_may b_P_may 3 (some .boolean) :: wsX)) B.pre
  have htx : ∀ w ∈ wsX, w.before ([.ref (A 0), .int x1, .int x2] : List Value).toArray s = true := fun w h => hts w (List.mem_cons_of_mem _ h)
  have htw : ∀ w ∈ wsC, w.before ([.ref (A 0), .int x1, .int x2] : List Value).toArray s = true := fun w h => htx w (List.mem_append_left _ h)
  have hte : ∀ w ∈ wsE, w.before ([.ref (A 0), .int x1, .int x2] : List Value).toArray s = true := fun w h => htx w (List.mem_append_right _ h)
  have hown : s.vm.findClass "PileLifts" = some m.cls := findClass_of_methodNamed B.named
  have hlocks := B.notSynchronized
  have hl := lv_entry ([.ref (A 0), .int x1, .int x2]) (n := 3) (Nat.le_of_ble_eq_true rfl)
  rw [lg_entry_eq]
  generalize (lg_sl ([.ref (A 0), .int x1, .int x2]) ++ List.replicate (3 - (lg_sl ([.ref (A 0), .int x1, .int x2])).length) Slot.unset).toArray = ls at hl ⊢
  have hl : lv_has ls 3 [(0, .ref (A 0)), (1, .int x1), (2, .int x2)] := hl
  rw [x_P_may] at h
  refine lv_aload_n hx hb d_P_may_0 rfl (lv_at hl 0 rfl) ?_
  refine lv_iload_n hx hb d_P_may_1 rfl (lv_at hl 1 rfl) ?_
  rcases kb_xc_some h with hc | h
  · exact kb_thruv (vx_runV (As := [.int x1]) (rest := []) ⟨hx, hb, hml, hown, htx⟩ (xc_P_checkPiece l hlt D A G x1 M0 _ _ s.heap.size hc) ⟨callB_of 1 htx (wsX_self mC_137) rfl rfl rfl (htw _ mC_0) (htw _ mC_135) q_P_checkPiece ⟨by show 8 + 1 ≤ 9; omega, by show 8 + (2 + 11) + 120 ≤ 141; omega⟩, htw _ mC_136, htw _ mC_243⟩ (kb_preVx hw hE 0 (wC_0 A G _) rfl) rfl rfl hl.1 rfl (lv_room (Nat.le_of_ble_eq_true rfl)) d_P_may_2 ⟨Nat.le_refl 1, Nat.le_refl 6⟩) hw htab hlocks
  · obtain ⟨r1, M2, hc, h⟩ := kb_cl_some h
    refine kb_callv0 (va_runV (As := [.int x1]) (rest := []) ⟨hx, hb, hml, hown, htw⟩ (c_P_checkPiece l D A G x1 M0 _ _ s.heap.size hc) ⟨(callB_of 1 htw (wsC_self mC_137) rfl rfl rfl (htw _ mC_0) (htw _ mC_135) q_P_checkPiece ⟨by show 2 + 1 ≤ 9; omega, by show 8 + (2 + 11) + 43 ≤ 141; omega⟩), htw _ mC_136, htw _ mC_243⟩ (kb_preV nnC_warm nnC_same hw hN 0 (wC_0 A G _) rfl) rfl rfl hl.1 rfl (lv_room (Nat.le_of_ble_eq_true rfl)) d_P_may_2 ⟨Nat.zero_le _, Nat.zero_le _⟩) hw (fun H locs hw => ?_)
    refine lv_aload_n hx hb d_P_may_5 rfl (lv_at hl 0 rfl) ?_
    refine lv_iload_n hx hb d_P_may_6 rfl (lv_at hl 2 rfl) ?_
    rcases kb_xc_some h with hc | h
    · exact kb_thruv (vx_runV (As := [.int x2]) (rest := []) ⟨hx, hb, hml, hown, htx⟩ (xc_P_checkPiece l hlt D A G x2 M2 _ _ H.size hc) ⟨callB_of 1 htx (wsX_self mC_137) rfl rfl rfl (htw _ mC_0) (htw _ mC_135) q_P_checkPiece ⟨by show 8 + 1 ≤ 9; omega, by show 8 + (2 + 11) + 120 ≤ 141; omega⟩, htw _ mC_136, htw _ mC_243⟩ (kb_preVx hw hE 0 (wC_0 A G _) rfl) rfl rfl hl.1 rfl (lv_room (Nat.le_of_ble_eq_true rfl)) d_P_may_7 ⟨Nat.le_refl 1, Nat.le_refl 6⟩) hw htab hlocks
    · obtain ⟨r3, M4, hc, h⟩ := kb_cl_some h
      refine kb_callv0 (va_runV (As := [.int x2]) (rest := []) ⟨hx, hb, hml, hown, htw⟩ (c_P_checkPiece l D A G x2 M2 _ _ H.size hc) ⟨(callB_of 1 htw (wsC_self mC_137) rfl rfl rfl (htw _ mC_0) (htw _ mC_135) q_P_checkPiece ⟨by show 2 + 1 ≤ 9; omega, by show 8 + (2 + 11) + 43 ≤ 141; omega⟩), htw _ mC_136, htw _ mC_243⟩ (kb_preV nnC_warm nnC_same hw hN 0 (wC_0 A G _) rfl) rfl rfl hl.1 rfl (lv_room (Nat.le_of_ble_eq_true rfl)) d_P_may_7 ⟨Nat.zero_le _, Nat.zero_le _⟩) hw (fun H locs hw => ?_)
      cases h
def x_P_run (x1 : Int32) (M0 : Nat → Nat → Int32) : Option (Nat × (Nat → Nat → Int32)) := kb_cl (f_P_isWithin x1 (0 : Int32) (100000 : Int32) M0) (fun r1 M2 => (if r1 = (0 : Int32) then some (3, M2) else none))
set_option maxHeartbeats 4000000 in
set_option maxRecDepth 100000 in
theorem xc_P_run (l : Launch) (hlt : l.stackTraces = false) (D : va_G) (A : Nat → Nat) (G : Nat → ClassId) (x1 : Int32) (M0 : Nat → Nat → Int32) (k : Nat) (M' : Nat → Nat → Int32) (sz : Nat) (h : x_P_run x1 M0 = some (k, M')) : kb_Cx l y_P_run (Cond.code y_P_run b_P_run 2 (some .int) :: wsX) { frames := 338, cells := 1, slots := 6, locals := 6769 } [.ref (A 0), .int x1] D kcl (tyC G) (wC A G M0) (wC A G M') (kb_qi (wC A G M0) sz) sz k := by
  refine vx_ofW (cc := b_P_run) (maxL := 2) (ret := (some .int)) (by decide) rfl ?_
  intro p e s m args below meth c s₁ B hml htab hv
  obtain ⟨rfl, hpre⟩ := hv
  obtain ⟨hw, hE⟩ := kb_enter hpre
  have hN := hE.1
  have hx := B.exec
  have hb := B.bytes
  have hts := atoms_spec (ws := (Cond.code y_P_run b_P_run 2 (some .int) :: wsX)) B.pre
  have htx : ∀ w ∈ wsX, w.before ([.ref (A 0), .int x1] : List Value).toArray s = true := fun w h => hts w (List.mem_cons_of_mem _ h)
  have htw : ∀ w ∈ wsC, w.before ([.ref (A 0), .int x1] : List Value).toArray s = true := fun w h => htx w (List.mem_append_left _ h)
  have hte : ∀ w ∈ wsE, w.before ([.ref (A 0), .int x1] : List Value).toArray s = true := fun w h => htx w (List.mem_append_right _ h)
  have hown : s.vm.findClass "PileLifts" = some m.cls := findClass_of_methodNamed B.named
  have hlocks := B.notSynchronized
  have hl := lv_entry ([.ref (A 0), .int x1]) (n := 2) (Nat.le_of_ble_eq_true rfl)
  rw [lg_entry_eq]
  generalize (lg_sl ([.ref (A 0), .int x1]) ++ List.replicate (2 - (lg_sl ([.ref (A 0), .int x1])).length) Slot.unset).toArray = ls at hl ⊢
  have hl : lv_has ls 2 [(0, .ref (A 0)), (1, .int x1)] := hl
  rw [x_P_run] at h
  refine lv_iload_n hx hb d_P_run_0 rfl (lv_at hl 1 rfl) ?_
  refine lv_iconst (v := 0) hx hb d_P_run_1 (by decide) ?_
  refine lv_ldc (v := 100000) hx hb hown (htw _ mC_148) d_P_run_2 ?_
  obtain ⟨r1, M2, hc, h⟩ := kb_cl_some h
  refine kb_calli0 (va_runS (As := [.int x1, .int (0 : Int32), .int (100000 : Int32)]) (rest := []) ⟨hx, hb, hml, hown, htw⟩ (c_P_isWithin l D A G x1 (0 : Int32) (100000 : Int32) M0 _ _ s.heap.size hc) ⟨(callB_of 3 htw (wsC_self mC_108) rfl rfl rfl (htw _ mC_0) (htw _ mC_106) q_P_isWithin ⟨by show 0 + 1 ≤ 338; omega, by show 8 + (3 + 11) + 0 ≤ 6769; omega⟩), htw _ mC_107⟩ (kb_preS nnC_warm nnC_same hw hN ) rfl rfl hl.1 rfl (lv_room (Nat.le_of_ble_eq_true rfl)) d_P_run_4 ⟨Nat.zero_le _, Nat.zero_le _⟩) hw (fun H locs hw => ?_)
  refine lv_if_ne (tgt := 20) hx hb d_P_run_7 (by decide) (fun c => ?_) (fun c => ?_)
  · have h := kb_in c h
    cases h
  · have h := kb_ip c h
    obtain ⟨rfl, rfl⟩ := kb_xt h
    exact kb_throw (k := 3) hx hb hlt hown wsE_3_fit (wsE_3_at hte hE.2.1) wsE_3_ot hE (List.mem_of_getElem? (i := 7) rfl) hw (hl.1.trans hml.symm) htab d_P_run_10 d_P_run_13 d_P_run_14 d_P_run_16 d_P_run_19 ⟨by decide, by show _ + 82 ≤ 6769; decide, by decide, by decide⟩ hlocks
def x_P_proved (M0 : Nat → Nat → Int32) : Option (Nat × (Nat → Nat → Int32)) := (if (M0 2 0) = (0 : Int32) then some (2, M0) else none)
set_option maxHeartbeats 4000000 in
set_option maxRecDepth 100000 in
theorem xc_P_proved (l : Launch) (hlt : l.stackTraces = false) (D : va_G) (A : Nat → Nat) (G : Nat → ClassId) (M0 : Nat → Nat → Int32) (k : Nat) (M' : Nat → Nat → Int32) (sz : Nat) (h : x_P_proved M0 = some (k, M')) : kb_Cx l y_P_proved (Cond.code y_P_proved b_P_proved 1 (some .boolean) :: wsX) { frames := 8, cells := 1, slots := 6, locals := 120 } [.ref (A 0)] D kcl (tyC G) (wC A G M0) (wC A G M') (kb_qi (wC A G M0) sz) sz k := by
  refine vx_ofW (cc := b_P_proved) (maxL := 1) (ret := (some .boolean)) (by decide) rfl ?_
  intro p e s m args below meth c s₁ B hml htab hv
  obtain ⟨rfl, hpre⟩ := hv
  obtain ⟨hw, hE⟩ := kb_enter hpre
  have hN := hE.1
  have hx := B.exec
  have hb := B.bytes
  have hts := atoms_spec (ws := (Cond.code y_P_proved b_P_proved 1 (some .boolean) :: wsX)) B.pre
  have htx : ∀ w ∈ wsX, w.before ([.ref (A 0)] : List Value).toArray s = true := fun w h => hts w (List.mem_cons_of_mem _ h)
  have htw : ∀ w ∈ wsC, w.before ([.ref (A 0)] : List Value).toArray s = true := fun w h => htx w (List.mem_append_left _ h)
  have hte : ∀ w ∈ wsE, w.before ([.ref (A 0)] : List Value).toArray s = true := fun w h => htx w (List.mem_append_right _ h)
  have hown : s.vm.findClass "PileLifts" = some m.cls := findClass_of_methodNamed B.named
  have hlocks := B.notSynchronized
  have hl := lv_entry ([.ref (A 0)]) (n := 1) (Nat.le_of_ble_eq_true rfl)
  rw [lg_entry_eq]
  generalize (lg_sl ([.ref (A 0)]) ++ List.replicate (1 - (lg_sl ([.ref (A 0)])).length) Slot.unset).toArray = ls at hl ⊢
  have hl : lv_has ls 1 [(0, .ref (A 0))] := hl
  rw [x_P_proved] at h
  refine lv_aload_n hx hb d_P_proved_0 rfl (lv_at hl 0 rfl) ?_
  refine kb_get (own := "PileLifts") (ref := "PileLifts") (C := R_P) (T := F_P) (N := 3) hx hb htw i_P hown hw 0 (wC_0 A G _) rfl 1 (by decide) (htw _ mC_78) rfl rfl d_P_proved_1 ?_
  refine kb_getN (own := "PileLifts") (ref := "PileLifts$Search") (C := R_S) (T := F_S) (N := 10) hx hb htw i_S hown hw 2 (wC_2 A G _) rfl 0 (by decide) (va_Nw.use rfl (nf_P_110 hN)) rfl rfl d_P_proved_4 ?_
  refine lv_if_ne (tgt := 20) hx hb d_P_proved_7 (by decide) (fun c => ?_) (fun c => ?_)
  · have h := kb_in c h
    cases h
  · have h := kb_ip c h
    obtain ⟨rfl, rfl⟩ := kb_xt h
    exact kb_throw (k := 2) hx hb hlt hown wsE_2_fit (wsE_2_at hte hE.2.1) wsE_2_ot hE (List.mem_of_getElem? (i := 8) rfl) hw (hl.1.trans hml.symm) htab d_P_proved_10 d_P_proved_13 d_P_proved_14 d_P_proved_16 d_P_proved_19 ⟨by decide, by show _ + 82 ≤ 120; decide, by decide, by decide⟩ hlocks
def x_P_moves (M0 : Nat → Nat → Int32) : Option (Nat × (Nat → Nat → Int32)) := kb_xc (x_P_checkPlan M0) (kb_cl (f_P_checkPlan M0) (fun r1 M2 => none))
set_option maxHeartbeats 4000000 in
set_option maxRecDepth 100000 in
theorem xc_P_moves (l : Launch) (hlt : l.stackTraces = false) (D : va_G) (A : Nat → Nat) (G : Nat → ClassId) (M0 : Nat → Nat → Int32) (k : Nat) (M' : Nat → Nat → Int32) (sz : Nat) (h : x_P_moves M0 = some (k, M')) : kb_Cx l y_P_moves (Cond.code y_P_moves b_P_moves 1 (some .int) :: wsX) { frames := 9, cells := 1, slots := 6, locals := 140 } [.ref (A 0)] D kcl (tyC G) (wC A G M0) (wC A G M') (kb_qi (wC A G M0) sz) sz k := by
  refine vx_ofW (cc := b_P_moves) (maxL := 1) (ret := (some .int)) (by decide) rfl ?_
  intro p e s m args below meth c s₁ B hml htab hv
  obtain ⟨rfl, hpre⟩ := hv
  obtain ⟨hw, hE⟩ := kb_enter hpre
  have hN := hE.1
  have hx := B.exec
  have hb := B.bytes
  have hts := atoms_spec (ws := (Cond.code y_P_moves b_P_moves 1 (some .int) :: wsX)) B.pre
  have htx : ∀ w ∈ wsX, w.before ([.ref (A 0)] : List Value).toArray s = true := fun w h => hts w (List.mem_cons_of_mem _ h)
  have htw : ∀ w ∈ wsC, w.before ([.ref (A 0)] : List Value).toArray s = true := fun w h => htx w (List.mem_append_left _ h)
  have hte : ∀ w ∈ wsE, w.before ([.ref (A 0)] : List Value).toArray s = true := fun w h => htx w (List.mem_append_right _ h)
  have hown : s.vm.findClass "PileLifts" = some m.cls := findClass_of_methodNamed B.named
  have hlocks := B.notSynchronized
  have hl := lv_entry ([.ref (A 0)]) (n := 1) (Nat.le_of_ble_eq_true rfl)
  rw [lg_entry_eq]
  generalize (lg_sl ([.ref (A 0)]) ++ List.replicate (1 - (lg_sl ([.ref (A 0)])).length) Slot.unset).toArray = ls at hl ⊢
  have hl : lv_has ls 1 [(0, .ref (A 0))] := hl
  rw [x_P_moves] at h
  refine lv_aload_n hx hb d_P_moves_0 rfl (lv_at hl 0 rfl) ?_
  rcases kb_xc_some h with hc | h
  · exact kb_thruv (vx_runV (As := []) (rest := []) ⟨hx, hb, hml, hown, htx⟩ (xc_P_checkPlan l hlt D A G M0 _ _ s.heap.size hc) ⟨callB_of 0 htx (wsX_self mC_192) rfl rfl rfl (htw _ mC_0) (htw _ mC_190) q_P_checkPlan ⟨by show 8 + 1 ≤ 9; omega, by show 8 + (1 + 11) + 120 ≤ 140; omega⟩, htw _ mC_191, htw _ mC_258⟩ (kb_preVx hw hE 0 (wC_0 A G _) rfl) rfl rfl hl.1 rfl (lv_room (Nat.le_of_ble_eq_true rfl)) d_P_moves_1 ⟨Nat.le_refl 1, Nat.le_refl 6⟩) hw htab hlocks
  · obtain ⟨r1, M2, hc, h⟩ := kb_cl_some h
    refine kb_callv0 (va_runV (As := []) (rest := []) ⟨hx, hb, hml, hown, htw⟩ (c_P_checkPlan l D A G M0 _ _ s.heap.size hc) ⟨(callB_of 0 htw (wsC_self mC_192) rfl rfl rfl (htw _ mC_0) (htw _ mC_190) q_P_checkPlan ⟨by show 0 + 1 ≤ 9; omega, by show 8 + (1 + 11) + 0 ≤ 140; omega⟩), htw _ mC_191, htw _ mC_258⟩ (kb_preV nnC_warm nnC_same hw hN 0 (wC_0 A G _) rfl) rfl rfl hl.1 rfl (lv_room (Nat.le_of_ble_eq_true rfl)) d_P_moves_1 ⟨Nat.zero_le _, Nat.zero_le _⟩) hw (fun H locs hw => ?_)
    cases h
def x_P_move (x1 x2 : Int32) (M0 : Nat → Nat → Int32) : Option (Nat × (Nat → Nat → Int32)) := kb_cl (f_P_isWithin x2 (0 : Int32) (1 : Int32) M0) (fun r1 M2 => (if r1 = (0 : Int32) then some (1, M2) else kb_xc (x_P_checkPlan M2) (kb_cl (f_P_checkPlan M2) (fun r3 M4 => kb_cl (f_P_isWithin x1 (0 : Int32) ((M4 2 6) - (1 : Int32)) M4) (fun r5 M6 => (if r5 = (0 : Int32) then some (3, M6) else none))))))
set_option maxHeartbeats 4000000 in
set_option maxRecDepth 100000 in
theorem xc_P_move (l : Launch) (hlt : l.stackTraces = false) (D : va_G) (A : Nat → Nat) (G : Nat → ClassId) (x1 x2 : Int32) (M0 : Nat → Nat → Int32) (k : Nat) (M' : Nat → Nat → Int32) (sz : Nat) (h : x_P_move x1 x2 M0 = some (k, M')) : kb_Cx l y_P_move (Cond.code y_P_move b_P_move 3 (some .int) :: wsX) { frames := 9, cells := 1, slots := 6, locals := 140 } [.ref (A 0), .int x1, .int x2] D kcl (tyC G) (wC A G M0) (wC A G M') (kb_qi (wC A G M0) sz) sz k := by
  refine vx_ofW (cc := b_P_move) (maxL := 3) (ret := (some .int)) (by decide) rfl ?_
  intro p e s m args below meth c s₁ B hml htab hv
  obtain ⟨rfl, hpre⟩ := hv
  obtain ⟨hw, hE⟩ := kb_enter hpre
  have hN := hE.1
  have hx := B.exec
  have hb := B.bytes
  have hts := atoms_spec (ws := (Cond.code y_P_move b_P_move 3 (some .int) :: wsX)) B.pre
  have htx : ∀ w ∈ wsX, w.before ([.ref (A 0), .int x1, .int x2] : List Value).toArray s = true := fun w h => hts w (List.mem_cons_of_mem _ h)
  have htw : ∀ w ∈ wsC, w.before ([.ref (A 0), .int x1, .int x2] : List Value).toArray s = true := fun w h => htx w (List.mem_append_left _ h)
  have hte : ∀ w ∈ wsE, w.before ([.ref (A 0), .int x1, .int x2] : List Value).toArray s = true := fun w h => htx w (List.mem_append_right _ h)
  have hown : s.vm.findClass "PileLifts" = some m.cls := findClass_of_methodNamed B.named
  have hlocks := B.notSynchronized
  have hl := lv_entry ([.ref (A 0), .int x1, .int x2]) (n := 3) (Nat.le_of_ble_eq_true rfl)
  rw [lg_entry_eq]
  generalize (lg_sl ([.ref (A 0), .int x1, .int x2]) ++ List.replicate (3 - (lg_sl ([.ref (A 0), .int x1, .int x2])).length) Slot.unset).toArray = ls at hl ⊢
  have hl : lv_has ls 3 [(0, .ref (A 0)), (1, .int x1), (2, .int x2)] := hl
  rw [x_P_move] at h
  refine lv_iload_n hx hb d_P_move_0 rfl (lv_at hl 2 rfl) ?_
  refine lv_iconst (v := 0) hx hb d_P_move_1 (by decide) ?_
  refine lv_iconst (v := 1) hx hb d_P_move_2 (by decide) ?_
  obtain ⟨r1, M2, hc, h⟩ := kb_cl_some h
  refine kb_calli0 (va_runS (As := [.int x2, .int (0 : Int32), .int (1 : Int32)]) (rest := []) ⟨hx, hb, hml, hown, htw⟩ (c_P_isWithin l D A G x2 (0 : Int32) (1 : Int32) M0 _ _ s.heap.size hc) ⟨(callB_of 3 htw (wsC_self mC_108) rfl rfl rfl (htw _ mC_0) (htw _ mC_106) q_P_isWithin ⟨by show 0 + 1 ≤ 9; omega, by show 8 + (3 + 11) + 0 ≤ 140; omega⟩), htw _ mC_107⟩ (kb_preS nnC_warm nnC_same hw hN ) rfl rfl hl.1 rfl (lv_room (Nat.le_of_ble_eq_true rfl)) d_P_move_3 ⟨Nat.zero_le _, Nat.zero_le _⟩) hw (fun H locs hw => ?_)
  refine lv_if_ne (tgt := 19) hx hb d_P_move_6 (by decide) (fun c => ?_) (fun c => ?_)
  · have h := kb_in c h
    refine lv_aload_n hx hb d_P_move_19 rfl (lv_at hl 0 rfl) ?_
    rcases kb_xc_some h with hc | h
    · exact kb_thruv (vx_runV (As := []) (rest := []) ⟨hx, hb, hml, hown, htx⟩ (xc_P_checkPlan l hlt D A G M2 _ _ H.size hc) ⟨callB_of 0 htx (wsX_self mC_192) rfl rfl rfl (htw _ mC_0) (htw _ mC_190) q_P_checkPlan ⟨by show 8 + 1 ≤ 9; omega, by show 8 + (1 + 11) + 120 ≤ 140; omega⟩, htw _ mC_191, htw _ mC_258⟩ (kb_preVx hw hE 0 (wC_0 A G _) rfl) rfl rfl hl.1 rfl (lv_room (Nat.le_of_ble_eq_true rfl)) d_P_move_20 ⟨Nat.le_refl 1, Nat.le_refl 6⟩) hw htab hlocks
    · obtain ⟨r3, M4, hc, h⟩ := kb_cl_some h
      refine kb_callv0 (va_runV (As := []) (rest := []) ⟨hx, hb, hml, hown, htw⟩ (c_P_checkPlan l D A G M2 _ _ H.size hc) ⟨(callB_of 0 htw (wsC_self mC_192) rfl rfl rfl (htw _ mC_0) (htw _ mC_190) q_P_checkPlan ⟨by show 0 + 1 ≤ 9; omega, by show 8 + (1 + 11) + 0 ≤ 140; omega⟩), htw _ mC_191, htw _ mC_258⟩ (kb_preV nnC_warm nnC_same hw hN 0 (wC_0 A G _) rfl) rfl rfl hl.1 rfl (lv_room (Nat.le_of_ble_eq_true rfl)) d_P_move_20 ⟨Nat.zero_le _, Nat.zero_le _⟩) hw (fun H locs hw => ?_)
      refine lv_iload_n hx hb d_P_move_23 rfl (lv_at hl 1 rfl) ?_
      refine lv_iconst (v := 0) hx hb d_P_move_24 (by decide) ?_
      refine lv_aload_n hx hb d_P_move_25 rfl (lv_at hl 0 rfl) ?_
      refine kb_get (own := "PileLifts") (ref := "PileLifts") (C := R_P) (T := F_P) (N := 3) hx hb htw i_P hown hw 0 (wC_0 A G _) rfl 1 (by decide) (htw _ mC_78) rfl rfl d_P_move_26 ?_
      refine kb_getN (own := "PileLifts") (ref := "PileLifts$Search") (C := R_S) (T := F_S) (N := 10) hx hb htw i_S hown hw 2 (wC_2 A G _) rfl 6 (by decide) (va_Nw.use rfl (nf_P_122 hN)) rfl rfl d_P_move_29 ?_
      refine lv_iconst (v := 1) hx hb d_P_move_32 (by decide) ?_
      refine lv_isub hx hb d_P_move_33 ?_
      obtain ⟨r5, M6, hc, h⟩ := kb_cl_some h
      refine kb_calli0 (va_runS (As := [.int x1, .int (0 : Int32), .int ((M4 2 6) - (1 : Int32))]) (rest := []) ⟨hx, hb, hml, hown, htw⟩ (c_P_isWithin l D A G x1 (0 : Int32) ((M4 2 6) - (1 : Int32)) M4 _ _ H.size hc) ⟨(callB_of 3 htw (wsC_self mC_108) rfl rfl rfl (htw _ mC_0) (htw _ mC_106) q_P_isWithin ⟨by show 0 + 1 ≤ 9; omega, by show 8 + (3 + 11) + 0 ≤ 140; omega⟩), htw _ mC_107⟩ (kb_preS nnC_warm nnC_same hw hN ) rfl rfl hl.1 rfl (lv_room (Nat.le_of_ble_eq_true rfl)) d_P_move_34 ⟨Nat.zero_le _, Nat.zero_le _⟩) hw (fun H locs hw => ?_)
      refine lv_if_ne (tgt := 50) hx hb d_P_move_37 (by decide) (fun c => ?_) (fun c => ?_)
      · have h := kb_in c h
        cases h
      · have h := kb_ip c h
        obtain ⟨rfl, rfl⟩ := kb_xt h
        exact kb_throw (k := 3) hx hb hlt hown wsE_3_fit (wsE_3_at hte hE.2.1) wsE_3_ot hE (List.mem_of_getElem? (i := 11) rfl) hw (hl.1.trans hml.symm) htab d_P_move_40 d_P_move_43 d_P_move_44 d_P_move_46 d_P_move_49 ⟨by decide, by show _ + 82 ≤ 140; decide, by decide, by decide⟩ hlocks
  · have h := kb_ip c h
    obtain ⟨rfl, rfl⟩ := kb_xt h
    exact kb_throw (k := 1) hx hb hlt hown wsE_1_fit (wsE_1_at hte hE.2.1) wsE_1_ot hE (List.mem_of_getElem? (i := 10) rfl) hw (hl.1.trans hml.symm) htab d_P_move_9 d_P_move_12 d_P_move_13 d_P_move_15 d_P_move_18 ⟨by decide, by show _ + 82 ≤ 140; decide, by decide, by decide⟩ hlocks
def x_P_replay (x1 : Int32) (M0 : Nat → Nat → Int32) : Option (Nat × (Nat → Nat → Int32)) := kb_xc (x_P_checkPlan M0) (kb_cl (f_P_checkPlan M0) (fun r1 M2 => kb_cl (f_P_isWithin x1 (0 : Int32) (M2 2 6) M2) (fun r3 M4 => (if r3 = (0 : Int32) then some (3, M4) else none))))
set_option maxHeartbeats 4000000 in
set_option maxRecDepth 100000 in
theorem xc_P_replay (l : Launch) (hlt : l.stackTraces = false) (D : va_G) (A : Nat → Nat) (G : Nat → ClassId) (x1 : Int32) (M0 : Nat → Nat → Int32) (k : Nat) (M' : Nat → Nat → Int32) (sz : Nat) (h : x_P_replay x1 M0 = some (k, M')) : kb_Cx l y_P_replay (Cond.code y_P_replay b_P_replay 2 (some .int) :: wsX) { frames := 9, cells := 1, slots := 6, locals := 140 } [.ref (A 0), .int x1] D kcl (tyC G) (wC A G M0) (wC A G M') (kb_qi (wC A G M0) sz) sz k := by
  refine vx_ofW (cc := b_P_replay) (maxL := 2) (ret := (some .int)) (by decide) rfl ?_
  intro p e s m args below meth c s₁ B hml htab hv
  obtain ⟨rfl, hpre⟩ := hv
  obtain ⟨hw, hE⟩ := kb_enter hpre
  have hN := hE.1
  have hx := B.exec
  have hb := B.bytes
  have hts := atoms_spec (ws := (Cond.code y_P_replay b_P_replay 2 (some .int) :: wsX)) B.pre
  have htx : ∀ w ∈ wsX, w.before ([.ref (A 0), .int x1] : List Value).toArray s = true := fun w h => hts w (List.mem_cons_of_mem _ h)
  have htw : ∀ w ∈ wsC, w.before ([.ref (A 0), .int x1] : List Value).toArray s = true := fun w h => htx w (List.mem_append_left _ h)
  have hte : ∀ w ∈ wsE, w.before ([.ref (A 0), .int x1] : List Value).toArray s = true := fun w h => htx w (List.mem_append_right _ h)
  have hown : s.vm.findClass "PileLifts" = some m.cls := findClass_of_methodNamed B.named
  have hlocks := B.notSynchronized
  have hl := lv_entry ([.ref (A 0), .int x1]) (n := 2) (Nat.le_of_ble_eq_true rfl)
  rw [lg_entry_eq]
  generalize (lg_sl ([.ref (A 0), .int x1]) ++ List.replicate (2 - (lg_sl ([.ref (A 0), .int x1])).length) Slot.unset).toArray = ls at hl ⊢
  have hl : lv_has ls 2 [(0, .ref (A 0)), (1, .int x1)] := hl
  rw [x_P_replay] at h
  refine lv_aload_n hx hb d_P_replay_0 rfl (lv_at hl 0 rfl) ?_
  rcases kb_xc_some h with hc | h
  · exact kb_thruv (vx_runV (As := []) (rest := []) ⟨hx, hb, hml, hown, htx⟩ (xc_P_checkPlan l hlt D A G M0 _ _ s.heap.size hc) ⟨callB_of 0 htx (wsX_self mC_192) rfl rfl rfl (htw _ mC_0) (htw _ mC_190) q_P_checkPlan ⟨by show 8 + 1 ≤ 9; omega, by show 8 + (1 + 11) + 120 ≤ 140; omega⟩, htw _ mC_191, htw _ mC_258⟩ (kb_preVx hw hE 0 (wC_0 A G _) rfl) rfl rfl hl.1 rfl (lv_room (Nat.le_of_ble_eq_true rfl)) d_P_replay_1 ⟨Nat.le_refl 1, Nat.le_refl 6⟩) hw htab hlocks
  · obtain ⟨r1, M2, hc, h⟩ := kb_cl_some h
    refine kb_callv0 (va_runV (As := []) (rest := []) ⟨hx, hb, hml, hown, htw⟩ (c_P_checkPlan l D A G M0 _ _ s.heap.size hc) ⟨(callB_of 0 htw (wsC_self mC_192) rfl rfl rfl (htw _ mC_0) (htw _ mC_190) q_P_checkPlan ⟨by show 0 + 1 ≤ 9; omega, by show 8 + (1 + 11) + 0 ≤ 140; omega⟩), htw _ mC_191, htw _ mC_258⟩ (kb_preV nnC_warm nnC_same hw hN 0 (wC_0 A G _) rfl) rfl rfl hl.1 rfl (lv_room (Nat.le_of_ble_eq_true rfl)) d_P_replay_1 ⟨Nat.zero_le _, Nat.zero_le _⟩) hw (fun H locs hw => ?_)
    refine lv_iload_n hx hb d_P_replay_4 rfl (lv_at hl 1 rfl) ?_
    refine lv_iconst (v := 0) hx hb d_P_replay_5 (by decide) ?_
    refine lv_aload_n hx hb d_P_replay_6 rfl (lv_at hl 0 rfl) ?_
    refine kb_get (own := "PileLifts") (ref := "PileLifts") (C := R_P) (T := F_P) (N := 3) hx hb htw i_P hown hw 0 (wC_0 A G _) rfl 1 (by decide) (htw _ mC_78) rfl rfl d_P_replay_7 ?_
    refine kb_getN (own := "PileLifts") (ref := "PileLifts$Search") (C := R_S) (T := F_S) (N := 10) hx hb htw i_S hown hw 2 (wC_2 A G _) rfl 6 (by decide) (va_Nw.use rfl (nf_P_122 hN)) rfl rfl d_P_replay_10 ?_
    obtain ⟨r3, M4, hc, h⟩ := kb_cl_some h
    refine kb_calli0 (va_runS (As := [.int x1, .int (0 : Int32), .int (M2 2 6)]) (rest := []) ⟨hx, hb, hml, hown, htw⟩ (c_P_isWithin l D A G x1 (0 : Int32) (M2 2 6) M2 _ _ H.size hc) ⟨(callB_of 3 htw (wsC_self mC_108) rfl rfl rfl (htw _ mC_0) (htw _ mC_106) q_P_isWithin ⟨by show 0 + 1 ≤ 9; omega, by show 8 + (3 + 11) + 0 ≤ 140; omega⟩), htw _ mC_107⟩ (kb_preS nnC_warm nnC_same hw hN ) rfl rfl hl.1 rfl (lv_room (Nat.le_of_ble_eq_true rfl)) d_P_replay_13 ⟨Nat.zero_le _, Nat.zero_le _⟩) hw (fun H locs hw => ?_)
    refine lv_if_ne (tgt := 29) hx hb d_P_replay_16 (by decide) (fun c => ?_) (fun c => ?_)
    · have h := kb_in c h
      cases h
    · have h := kb_ip c h
      obtain ⟨rfl, rfl⟩ := kb_xt h
      exact kb_throw (k := 3) hx hb hlt hown wsE_3_fit (wsE_3_at hte hE.2.1) wsE_3_ot hE (List.mem_of_getElem? (i := 12) rfl) hw (hl.1.trans hml.symm) htab d_P_replay_19 d_P_replay_22 d_P_replay_23 d_P_replay_25 d_P_replay_28 ⟨by decide, by show _ + 82 ≤ 140; decide, by decide, by decide⟩ hlocks
def x_P_at (x1 x2 : Int32) (M0 : Nat → Nat → Int32) : Option (Nat × (Nat → Nat → Int32)) := kb_xc (x_P_checkPiece x1 M0) (kb_cl (f_P_checkPiece x1 M0) (fun r1 M2 => (if x2 = (0 : Int32) then none else (if x2 = (1 : Int32) then none else (if x2 = (2 : Int32) then none else (if x2 = (3 : Int32) then none else (if x2 = (4 : Int32) then none else some (1, M2))))))))
set_option maxHeartbeats 4000000 in
set_option maxRecDepth 100000 in
theorem xc_P_at (l : Launch) (hlt : l.stackTraces = false) (D : va_G) (A : Nat → Nat) (G : Nat → ClassId) (x1 x2 : Int32) (M0 : Nat → Nat → Int32) (k : Nat) (M' : Nat → Nat → Int32) (sz : Nat) (h : x_P_at x1 x2 M0 = some (k, M')) : kb_Cx l y_P_at (Cond.code y_P_at b_P_at 3 (some .int) :: wsX) { frames := 9, cells := 1, slots := 6, locals := 141 } [.ref (A 0), .int x1, .int x2] D kcl (tyC G) (wC A G M0) (wC A G M') (kb_qi (wC A G M0) sz) sz k := by
  refine vx_ofW (cc := b_P_at) (maxL := 3) (ret := (some .int)) (by decide) rfl ?_
  intro p e s m args below meth c s₁ B hml htab hv
  obtain ⟨rfl, hpre⟩ := hv
  obtain ⟨hw, hE⟩ := kb_enter hpre
  have hN := hE.1
  have hx := B.exec
  have hb := B.bytes
  have hts := atoms_spec (ws := (Cond.code y_P_at b_P_at 3 (some .int) :: wsX)) B.pre
  have htx : ∀ w ∈ wsX, w.before ([.ref (A 0), .int x1, .int x2] : List Value).toArray s = true := fun w h => hts w (List.mem_cons_of_mem _ h)
  have htw : ∀ w ∈ wsC, w.before ([.ref (A 0), .int x1, .int x2] : List Value).toArray s = true := fun w h => htx w (List.mem_append_left _ h)
  have hte : ∀ w ∈ wsE, w.before ([.ref (A 0), .int x1, .int x2] : List Value).toArray s = true := fun w h => htx w (List.mem_append_right _ h)
  have hown : s.vm.findClass "PileLifts" = some m.cls := findClass_of_methodNamed B.named
  have hlocks := B.notSynchronized
  have hl := lv_entry ([.ref (A 0), .int x1, .int x2]) (n := 3) (Nat.le_of_ble_eq_true rfl)
  rw [lg_entry_eq]
  generalize (lg_sl ([.ref (A 0), .int x1, .int x2]) ++ List.replicate (3 - (lg_sl ([.ref (A 0), .int x1, .int x2])).length) Slot.unset).toArray = ls at hl ⊢
  have hl : lv_has ls 3 [(0, .ref (A 0)), (1, .int x1), (2, .int x2)] := hl
  rw [x_P_at] at h
  refine lv_aload_n hx hb d_P_at_0 rfl (lv_at hl 0 rfl) ?_
  refine lv_iload_n hx hb d_P_at_1 rfl (lv_at hl 1 rfl) ?_
  rcases kb_xc_some h with hc | h
  · exact kb_thruv (vx_runV (As := [.int x1]) (rest := []) ⟨hx, hb, hml, hown, htx⟩ (xc_P_checkPiece l hlt D A G x1 M0 _ _ s.heap.size hc) ⟨callB_of 1 htx (wsX_self mC_137) rfl rfl rfl (htw _ mC_0) (htw _ mC_135) q_P_checkPiece ⟨by show 8 + 1 ≤ 9; omega, by show 8 + (2 + 11) + 120 ≤ 141; omega⟩, htw _ mC_136, htw _ mC_243⟩ (kb_preVx hw hE 0 (wC_0 A G _) rfl) rfl rfl hl.1 rfl (lv_room (Nat.le_of_ble_eq_true rfl)) d_P_at_2 ⟨Nat.le_refl 1, Nat.le_refl 6⟩) hw htab hlocks
  · obtain ⟨r1, M2, hc, h⟩ := kb_cl_some h
    refine kb_callv0 (va_runV (As := [.int x1]) (rest := []) ⟨hx, hb, hml, hown, htw⟩ (c_P_checkPiece l D A G x1 M0 _ _ s.heap.size hc) ⟨(callB_of 1 htw (wsC_self mC_137) rfl rfl rfl (htw _ mC_0) (htw _ mC_135) q_P_checkPiece ⟨by show 2 + 1 ≤ 9; omega, by show 8 + (2 + 11) + 43 ≤ 141; omega⟩), htw _ mC_136, htw _ mC_243⟩ (kb_preV nnC_warm nnC_same hw hN 0 (wC_0 A G _) rfl) rfl rfl hl.1 rfl (lv_room (Nat.le_of_ble_eq_true rfl)) d_P_at_2 ⟨Nat.zero_le _, Nat.zero_le _⟩) hw (fun H locs hw => ?_)
    refine lv_iload_n hx hb d_P_at_5 rfl (lv_at hl 2 rfl) ?_
    by_cases c0 : x2 = (0 : Int32)
    · have h := kb_ip c0 h
      refine lv_tableIn (tgt := 40) (off := 34) hx hb d_P_at_6 (by rw [c0]; decide) (by rw [c0]; decide) (by rw [c0]; rfl) (by decide) ?_
      cases h
    · have h := kb_in c0 h
      by_cases c1 : x2 = (1 : Int32)
      · have h := kb_ip c1 h
        refine lv_tableIn (tgt := 50) (off := 44) hx hb d_P_at_6 (by rw [c1]; decide) (by rw [c1]; decide) (by rw [c1]; rfl) (by decide) ?_
        cases h
      · have h := kb_in c1 h
        by_cases c2 : x2 = (2 : Int32)
        · have h := kb_ip c2 h
          refine lv_tableIn (tgt := 60) (off := 54) hx hb d_P_at_6 (by rw [c2]; decide) (by rw [c2]; decide) (by rw [c2]; rfl) (by decide) ?_
          cases h
        · have h := kb_in c2 h
          by_cases c3 : x2 = (3 : Int32)
          · have h := kb_ip c3 h
            refine lv_tableIn (tgt := 77) (off := 71) hx hb d_P_at_6 (by rw [c3]; decide) (by rw [c3]; decide) (by rw [c3]; rfl) (by decide) ?_
            cases h
          · have h := kb_in c3 h
            by_cases c4 : x2 = (4 : Int32)
            · have h := kb_ip c4 h
              refine lv_tableIn (tgt := 87) (off := 81) hx hb d_P_at_6 (by rw [c4]; decide) (by rw [c4]; decide) (by rw [c4]; rfl) (by decide) ?_
              cases h
            · have h := kb_in c4 h
              refine lv_tableOut (tgt := 97) hx hb d_P_at_6 (by have a0 := lv_neT c0 (a := 0) rfl; have a1 := lv_neT c1 (a := 1) rfl; have a2 := lv_neT c2 (a := 2) rfl; have a3 := lv_neT c3 (a := 3) rfl; have a4 := lv_neT c4 (a := 4) rfl; omega) (by decide) ?_
              obtain ⟨rfl, rfl⟩ := kb_xt h
              exact kb_throw (k := 1) hx hb hlt hown wsE_1_fit (wsE_1_at hte hE.2.1) wsE_1_ot hE (List.mem_of_getElem? (i := 13) rfl) hw (hl.1.trans hml.symm) htab d_P_at_97 d_P_at_100 d_P_at_101 d_P_at_103 d_P_at_106 ⟨by decide, by show _ + 82 ≤ 141; decide, by decide, by decide⟩ hlocks
def x_P_tidy (x1 : Int32) (M0 : Nat → Nat → Int32) : Option (Nat × (Nat → Nat → Int32)) := kb_cl (f_P_isWithin x1 (0 : Int32) (20 : Int32) M0) (fun r1 M2 => (if r1 = (0 : Int32) then some (3, M2) else none))
set_option maxHeartbeats 4000000 in
set_option maxRecDepth 100000 in
theorem xc_P_tidy (l : Launch) (hlt : l.stackTraces = false) (D : va_G) (A : Nat → Nat) (G : Nat → ClassId) (x1 : Int32) (M0 : Nat → Nat → Int32) (k : Nat) (M' : Nat → Nat → Int32) (sz : Nat) (h : x_P_tidy x1 M0 = some (k, M')) : kb_Cx l y_P_tidy (Cond.code y_P_tidy b_P_tidy 3 (some .int) :: wsX) { frames := 8, cells := 1, slots := 6, locals := 120 } [.ref (A 0), .int x1] D kcl (tyC G) (wC A G M0) (wC A G M') (kb_qi (wC A G M0) sz) sz k := by
  refine vx_ofW (cc := b_P_tidy) (maxL := 3) (ret := (some .int)) (by decide) rfl ?_
  intro p e s m args below meth c s₁ B hml htab hv
  obtain ⟨rfl, hpre⟩ := hv
  obtain ⟨hw, hE⟩ := kb_enter hpre
  have hN := hE.1
  have hx := B.exec
  have hb := B.bytes
  have hts := atoms_spec (ws := (Cond.code y_P_tidy b_P_tidy 3 (some .int) :: wsX)) B.pre
  have htx : ∀ w ∈ wsX, w.before ([.ref (A 0), .int x1] : List Value).toArray s = true := fun w h => hts w (List.mem_cons_of_mem _ h)
  have htw : ∀ w ∈ wsC, w.before ([.ref (A 0), .int x1] : List Value).toArray s = true := fun w h => htx w (List.mem_append_left _ h)
  have hte : ∀ w ∈ wsE, w.before ([.ref (A 0), .int x1] : List Value).toArray s = true := fun w h => htx w (List.mem_append_right _ h)
  have hown : s.vm.findClass "PileLifts" = some m.cls := findClass_of_methodNamed B.named
  have hlocks := B.notSynchronized
  have hl := lv_entry ([.ref (A 0), .int x1]) (n := 3) (Nat.le_of_ble_eq_true rfl)
  rw [lg_entry_eq]
  generalize (lg_sl ([.ref (A 0), .int x1]) ++ List.replicate (3 - (lg_sl ([.ref (A 0), .int x1])).length) Slot.unset).toArray = ls at hl ⊢
  have hl : lv_has ls 3 [(0, .ref (A 0)), (1, .int x1)] := hl
  rw [x_P_tidy] at h
  refine lv_iload_n hx hb d_P_tidy_0 rfl (lv_at hl 1 rfl) ?_
  refine lv_iconst (v := 0) hx hb d_P_tidy_1 (by decide) ?_
  refine lv_bipush (v := 20) hx hb d_P_tidy_2 (by decide) ?_
  obtain ⟨r1, M2, hc, h⟩ := kb_cl_some h
  refine kb_calli0 (va_runS (As := [.int x1, .int (0 : Int32), .int (20 : Int32)]) (rest := []) ⟨hx, hb, hml, hown, htw⟩ (c_P_isWithin l D A G x1 (0 : Int32) (20 : Int32) M0 _ _ s.heap.size hc) ⟨(callB_of 3 htw (wsC_self mC_108) rfl rfl rfl (htw _ mC_0) (htw _ mC_106) q_P_isWithin ⟨by show 0 + 1 ≤ 8; omega, by show 8 + (3 + 11) + 0 ≤ 120; omega⟩), htw _ mC_107⟩ (kb_preS nnC_warm nnC_same hw hN ) rfl rfl hl.1 rfl (lv_room (Nat.le_of_ble_eq_true rfl)) d_P_tidy_4 ⟨Nat.zero_le _, Nat.zero_le _⟩) hw (fun H locs hw => ?_)
  refine lv_if_ne (tgt := 20) hx hb d_P_tidy_7 (by decide) (fun c => ?_) (fun c => ?_)
  · have h := kb_in c h
    cases h
  · have h := kb_ip c h
    obtain ⟨rfl, rfl⟩ := kb_xt h
    exact kb_throw (k := 3) hx hb hlt hown wsE_3_fit (wsE_3_at hte hE.2.1) wsE_3_ot hE (List.mem_of_getElem? (i := 14) rfl) hw (hl.1.trans hml.symm) htab d_P_tidy_10 d_P_tidy_13 d_P_tidy_14 d_P_tidy_16 d_P_tidy_19 ⟨by decide, by show _ + 82 ≤ 120; decide, by decide, by decide⟩ hlocks
def x_P_wagon (x1 : Int32) (M0 : Nat → Nat → Int32) : Option (Nat × (Nat → Nat → Int32)) := kb_cl (f_P_isWithin x1 (1 : Int32) (5000 : Int32) M0) (fun r1 M2 => (if r1 = (0 : Int32) then some (3, M2) else (if (M2 3 0) < (4 : Int32) then none else some (4, M2))))
set_option maxHeartbeats 4000000 in
set_option maxRecDepth 100000 in
theorem xc_P_wagon (l : Launch) (hlt : l.stackTraces = false) (D : va_G) (A : Nat → Nat) (G : Nat → ClassId) (x1 : Int32) (M0 : Nat → Nat → Int32) (k : Nat) (M' : Nat → Nat → Int32) (sz : Nat) (h : x_P_wagon x1 M0 = some (k, M')) : kb_Cx l y_P_wagon (Cond.code y_P_wagon b_P_wagon 2 (some .int) :: wsX) { frames := 8, cells := 1, slots := 6, locals := 120 } [.ref (A 0), .int x1] D kcl (tyC G) (wC A G M0) (wC A G M') (kb_qi (wC A G M0) sz) sz k := by
  refine vx_ofW (cc := b_P_wagon) (maxL := 2) (ret := (some .int)) (by decide) rfl ?_
  intro p e s m args below meth c s₁ B hml htab hv
  obtain ⟨rfl, hpre⟩ := hv
  obtain ⟨hw, hE⟩ := kb_enter hpre
  have hN := hE.1
  have hx := B.exec
  have hb := B.bytes
  have hts := atoms_spec (ws := (Cond.code y_P_wagon b_P_wagon 2 (some .int) :: wsX)) B.pre
  have htx : ∀ w ∈ wsX, w.before ([.ref (A 0), .int x1] : List Value).toArray s = true := fun w h => hts w (List.mem_cons_of_mem _ h)
  have htw : ∀ w ∈ wsC, w.before ([.ref (A 0), .int x1] : List Value).toArray s = true := fun w h => htx w (List.mem_append_left _ h)
  have hte : ∀ w ∈ wsE, w.before ([.ref (A 0), .int x1] : List Value).toArray s = true := fun w h => htx w (List.mem_append_right _ h)
  have hown : s.vm.findClass "PileLifts" = some m.cls := findClass_of_methodNamed B.named
  have hlocks := B.notSynchronized
  have hl := lv_entry ([.ref (A 0), .int x1]) (n := 2) (Nat.le_of_ble_eq_true rfl)
  rw [lg_entry_eq]
  generalize (lg_sl ([.ref (A 0), .int x1]) ++ List.replicate (2 - (lg_sl ([.ref (A 0), .int x1])).length) Slot.unset).toArray = ls at hl ⊢
  have hl : lv_has ls 2 [(0, .ref (A 0)), (1, .int x1)] := hl
  rw [x_P_wagon] at h
  refine lv_iload_n hx hb d_P_wagon_0 rfl (lv_at hl 1 rfl) ?_
  refine lv_iconst (v := 1) hx hb d_P_wagon_1 (by decide) ?_
  refine lv_sipush (v := 5000) hx hb d_P_wagon_2 (by decide) ?_
  obtain ⟨r1, M2, hc, h⟩ := kb_cl_some h
  refine kb_calli0 (va_runS (As := [.int x1, .int (1 : Int32), .int (5000 : Int32)]) (rest := []) ⟨hx, hb, hml, hown, htw⟩ (c_P_isWithin l D A G x1 (1 : Int32) (5000 : Int32) M0 _ _ s.heap.size hc) ⟨(callB_of 3 htw (wsC_self mC_108) rfl rfl rfl (htw _ mC_0) (htw _ mC_106) q_P_isWithin ⟨by show 0 + 1 ≤ 8; omega, by show 8 + (3 + 11) + 0 ≤ 120; omega⟩), htw _ mC_107⟩ (kb_preS nnC_warm nnC_same hw hN ) rfl rfl hl.1 rfl (lv_room (Nat.le_of_ble_eq_true rfl)) d_P_wagon_5 ⟨Nat.zero_le _, Nat.zero_le _⟩) hw (fun H locs hw => ?_)
  refine lv_if_ne (tgt := 21) hx hb d_P_wagon_8 (by decide) (fun c => ?_) (fun c => ?_)
  · have h := kb_in c h
    refine lv_aload_n hx hb d_P_wagon_21 rfl (lv_at hl 0 rfl) ?_
    refine kb_get (own := "PileLifts") (ref := "PileLifts") (C := R_P) (T := F_P) (N := 3) hx hb htw i_P hown hw 0 (wC_0 A G _) rfl 2 (by decide) (htw _ mC_79) rfl rfl d_P_wagon_22 ?_
    refine kb_getN (own := "PileLifts") (ref := "PileLifts$Wagons") (C := R_W) (T := F_W) (N := 4) hx hb htw i_W hown hw 3 (wC_3 A G _) rfl 0 (by decide) (va_Nw.use rfl (nf_P_166 hN)) rfl rfl d_P_wagon_25 ?_
    refine lv_iconst (v := 4) hx hb d_P_wagon_28 (by decide) ?_
    refine lv_icmp_lt (tgt := 42) hx hb d_P_wagon_29 (by decide) (fun c => ?_) (fun c => ?_)
    · have h := kb_ip c h
      cases h
    · have h := kb_in c h
      obtain ⟨rfl, rfl⟩ := kb_xt h
      exact kb_throw (k := 4) hx hb hlt hown wsE_4_fit (wsE_4_at hte hE.2.1) wsE_4_ot hE (List.mem_of_getElem? (i := 16) rfl) hw (hl.1.trans hml.symm) htab d_P_wagon_32 d_P_wagon_35 d_P_wagon_36 d_P_wagon_38 d_P_wagon_41 ⟨by decide, by show _ + 82 ≤ 120; decide, by decide, by decide⟩ hlocks
  · have h := kb_ip c h
    obtain ⟨rfl, rfl⟩ := kb_xt h
    exact kb_throw (k := 3) hx hb hlt hown wsE_3_fit (wsE_3_at hte hE.2.1) wsE_3_ot hE (List.mem_of_getElem? (i := 15) rfl) hw (hl.1.trans hml.symm) htab d_P_wagon_11 d_P_wagon_14 d_P_wagon_15 d_P_wagon_17 d_P_wagon_20 ⟨by decide, by show _ + 82 ≤ 120; decide, by decide, by decide⟩ hlocks
def x_P_load (x1 : Int32) (M0 : Nat → Nat → Int32) : Option (Nat × (Nat → Nat → Int32)) := kb_xc (x_P_checkPiece x1 M0) (kb_cl (f_P_checkPiece x1 M0) (fun r1 M2 => kb_cl (f_Y_isGone x1 M2) (fun r3 M4 => (if r3 = (0 : Int32) then some (2, M4) else kb_rd (M4 16) 10 x1 (fun v5 => (if v5 = (-1 : Int32) then kb_rd (M4 6) 10 x1 (fun v6 => kb_cl (f_W_firstWithRoom v6 M4) (fun r7 M8 => (if r7 = (-1 : Int32) then some (4, M8) else none))) else some (2, M4)))))))
set_option maxHeartbeats 4000000 in
set_option maxRecDepth 100000 in
theorem xc_P_load (l : Launch) (hlt : l.stackTraces = false) (D : va_G) (A : Nat → Nat) (G : Nat → ClassId) (x1 : Int32) (M0 : Nat → Nat → Int32) (k : Nat) (M' : Nat → Nat → Int32) (sz : Nat) (h : x_P_load x1 M0 = some (k, M')) : kb_Cx l y_P_load (Cond.code y_P_load b_P_load 3 (some .int) :: wsX) { frames := 9, cells := 1, slots := 6, locals := 141 } [.ref (A 0), .int x1] D kcl (tyC G) (wC A G M0) (wC A G M') (kb_qi (wC A G M0) sz) sz k := by
  refine vx_ofW (cc := b_P_load) (maxL := 3) (ret := (some .int)) (by decide) rfl ?_
  intro p e s m args below meth c s₁ B hml htab hv
  obtain ⟨rfl, hpre⟩ := hv
  obtain ⟨hw, hE⟩ := kb_enter hpre
  have hN := hE.1
  have hx := B.exec
  have hb := B.bytes
  have hts := atoms_spec (ws := (Cond.code y_P_load b_P_load 3 (some .int) :: wsX)) B.pre
  have htx : ∀ w ∈ wsX, w.before ([.ref (A 0), .int x1] : List Value).toArray s = true := fun w h => hts w (List.mem_cons_of_mem _ h)
  have htw : ∀ w ∈ wsC, w.before ([.ref (A 0), .int x1] : List Value).toArray s = true := fun w h => htx w (List.mem_append_left _ h)
  have hte : ∀ w ∈ wsE, w.before ([.ref (A 0), .int x1] : List Value).toArray s = true := fun w h => htx w (List.mem_append_right _ h)
  have hown : s.vm.findClass "PileLifts" = some m.cls := findClass_of_methodNamed B.named
  have hlocks := B.notSynchronized
  have hl := lv_entry ([.ref (A 0), .int x1]) (n := 3) (Nat.le_of_ble_eq_true rfl)
  rw [lg_entry_eq]
  generalize (lg_sl ([.ref (A 0), .int x1]) ++ List.replicate (3 - (lg_sl ([.ref (A 0), .int x1])).length) Slot.unset).toArray = ls at hl ⊢
  have hl : lv_has ls 3 [(0, .ref (A 0)), (1, .int x1)] := hl
  rw [x_P_load] at h
  refine lv_aload_n hx hb d_P_load_0 rfl (lv_at hl 0 rfl) ?_
  refine lv_iload_n hx hb d_P_load_1 rfl (lv_at hl 1 rfl) ?_
  rcases kb_xc_some h with hc | h
  · exact kb_thruv (vx_runV (As := [.int x1]) (rest := []) ⟨hx, hb, hml, hown, htx⟩ (xc_P_checkPiece l hlt D A G x1 M0 _ _ s.heap.size hc) ⟨callB_of 1 htx (wsX_self mC_137) rfl rfl rfl (htw _ mC_0) (htw _ mC_135) q_P_checkPiece ⟨by show 8 + 1 ≤ 9; omega, by show 8 + (2 + 11) + 120 ≤ 141; omega⟩, htw _ mC_136, htw _ mC_243⟩ (kb_preVx hw hE 0 (wC_0 A G _) rfl) rfl rfl hl.1 rfl (lv_room (Nat.le_of_ble_eq_true rfl)) d_P_load_2 ⟨Nat.le_refl 1, Nat.le_refl 6⟩) hw htab hlocks
  · obtain ⟨r1, M2, hc, h⟩ := kb_cl_some h
    refine kb_callv0 (va_runV (As := [.int x1]) (rest := []) ⟨hx, hb, hml, hown, htw⟩ (c_P_checkPiece l D A G x1 M0 _ _ s.heap.size hc) ⟨(callB_of 1 htw (wsC_self mC_137) rfl rfl rfl (htw _ mC_0) (htw _ mC_135) q_P_checkPiece ⟨by show 2 + 1 ≤ 9; omega, by show 8 + (2 + 11) + 43 ≤ 141; omega⟩), htw _ mC_136, htw _ mC_243⟩ (kb_preV nnC_warm nnC_same hw hN 0 (wC_0 A G _) rfl) rfl rfl hl.1 rfl (lv_room (Nat.le_of_ble_eq_true rfl)) d_P_load_2 ⟨Nat.zero_le _, Nat.zero_le _⟩) hw (fun H locs hw => ?_)
    refine lv_aload_n hx hb d_P_load_5 rfl (lv_at hl 0 rfl) ?_
    refine kb_get (own := "PileLifts") (ref := "PileLifts") (C := R_P) (T := F_P) (N := 3) hx hb htw i_P hown hw 0 (wC_0 A G _) rfl 0 (by decide) (htw _ mC_77) rfl rfl d_P_load_6 ?_
    refine lv_iload_n hx hb d_P_load_9 rfl (lv_at hl 1 rfl) ?_
    obtain ⟨r3, M4, hc, h⟩ := kb_cl_some h
    refine kb_calli0 (va_runVN (As := [.int x1]) (rest := []) ⟨hx, hb, hml, hown, htw⟩ (c_Y_isGone l D A G x1 M2 _ _ H.size hc) ⟨(va_cnB 1 htw (wsC_self mC_93) rfl rfl rfl (nm_P_82 hN) (htw _ mC_1) q_Y_isGone ⟨by show 0 + 1 ≤ 9; omega, by show 8 + (2 + 11) + 0 ≤ 141; omega⟩), htw _ mC_92, htw _ mC_233⟩ (kb_preV nnC_warm nnC_same hw hN 1 (wC_1 A G _) rfl) rfl rfl hl.1 rfl (lv_room (Nat.le_of_ble_eq_true rfl)) d_P_load_10 ⟨Nat.zero_le _, Nat.zero_le _⟩) hw (fun H locs hw => ?_)
    refine lv_if_eq (tgt := 29) hx hb d_P_load_13 (by decide) (fun c => ?_) (fun c => ?_)
    · have h := kb_ip c h
      obtain ⟨rfl, rfl⟩ := kb_xt h
      exact kb_throw (k := 2) hx hb hlt hown wsE_2_fit (wsE_2_at hte hE.2.1) wsE_2_ot hE (List.mem_of_getElem? (i := 17) rfl) hw (hl.1.trans hml.symm) htab d_P_load_29 d_P_load_32 d_P_load_33 d_P_load_35 d_P_load_38 ⟨by decide, by show _ + 82 ≤ 141; decide, by decide, by decide⟩ hlocks
    · have h := kb_in c h
      refine lv_aload_n hx hb d_P_load_16 rfl (lv_at hl 0 rfl) ?_
      refine kb_get (own := "PileLifts") (ref := "PileLifts") (C := R_P) (T := F_P) (N := 3) hx hb htw i_P hown hw 0 (wC_0 A G _) rfl 2 (by decide) (htw _ mC_79) rfl rfl d_P_load_17 ?_
      refine kb_getN (own := "PileLifts") (ref := "PileLifts$Wagons") (C := R_W) (T := F_W) (N := 4) hx hb htw i_W hown hw 3 (wC_3 A G _) rfl 3 (by decide) (va_Nw.use rfl (nf_P_153 hN)) rfl rfl d_P_load_20 ?_
      refine lv_iload_n hx hb d_P_load_23 rfl (lv_at hl 1 rfl) ?_
      obtain ⟨v5, ev5, hi, h⟩ := kb_rd_some h
      refine kb_ald hx hb hw 16 12 rfl rfl hi ev5 d_P_load_24 ?_
      refine lv_iconst (v := -1) hx hb d_P_load_25 (by decide) ?_
      refine lv_icmp_eq (tgt := 39) hx hb d_P_load_26 (by decide) (fun c => ?_) (fun c => ?_)
      · have h := kb_ip c h
        refine lv_aload_n hx hb d_P_load_39 rfl (lv_at hl 0 rfl) ?_
        refine kb_get (own := "PileLifts") (ref := "PileLifts") (C := R_P) (T := F_P) (N := 3) hx hb htw i_P hown hw 0 (wC_0 A G _) rfl 2 (by decide) (htw _ mC_79) rfl rfl d_P_load_40 ?_
        refine lv_aload_n hx hb d_P_load_43 rfl (lv_at hl 0 rfl) ?_
        refine kb_get (own := "PileLifts") (ref := "PileLifts") (C := R_P) (T := F_P) (N := 3) hx hb htw i_P hown hw 0 (wC_0 A G _) rfl 0 (by decide) (htw _ mC_77) rfl rfl d_P_load_44 ?_
        refine kb_getN (own := "PileLifts") (ref := "PileLifts$Yard") (C := R_Y) (T := F_Y) (N := 10) hx hb htw i_Y hown hw 1 (wC_1 A G _) rfl 5 (by decide) (va_Nw.use rfl (nf_P_176 hN)) rfl rfl d_P_load_47 ?_
        refine lv_iload_n hx hb d_P_load_50 rfl (lv_at hl 1 rfl) ?_
        obtain ⟨v6, ev6, hi, h⟩ := kb_rd_some h
        refine kb_ald hx hb hw 6 2 rfl rfl hi ev6 d_P_load_51 ?_
        obtain ⟨r7, M8, hc, h⟩ := kb_cl_some h
        refine kb_calli0 (va_runVN (As := [.int v6]) (rest := []) ⟨hx, hb, hml, hown, htw⟩ (c_W_firstWithRoom l D A G v6 M4 _ _ H.size hc) ⟨(va_cnB 1 htw (wsC_self mC_226) rfl rfl rfl (nm_P_179 hN) (htw _ mC_3) q_W_firstWithRoom ⟨by show 0 + 1 ≤ 9; omega, by show 8 + (3 + 11) + 0 ≤ 141; omega⟩), htw _ mC_225, htw _ mC_264⟩ (kb_preV nnC_warm nnC_same hw hN 3 (wC_3 A G _) rfl) rfl rfl hl.1 rfl (lv_room (Nat.le_of_ble_eq_true rfl)) d_P_load_52 ⟨Nat.zero_le _, Nat.zero_le _⟩) hw (fun H locs hw => ?_)
        refine lv_istore_n (lv' := [(2, .int r7), (0, .ref (A 0)), (1, .int x1)]) hx hb d_P_load_55 rfl hl (by decide) rfl (fun ls hl => ?_)
        refine lv_iload_n hx hb d_P_load_56 rfl (lv_at hl 0 rfl) ?_
        refine lv_iconst (v := -1) hx hb d_P_load_57 (by decide) ?_
        refine lv_icmp_ne (tgt := 71) hx hb d_P_load_58 (by decide) (fun c => ?_) (fun c => ?_)
        · have h := kb_in c h
          cases h
        · have h := kb_ip c h
          obtain ⟨rfl, rfl⟩ := kb_xt h
          exact kb_throw (k := 4) hx hb hlt hown wsE_4_fit (wsE_4_at hte hE.2.1) wsE_4_ot hE (List.mem_of_getElem? (i := 18) rfl) hw (hl.1.trans hml.symm) htab d_P_load_61 d_P_load_64 d_P_load_65 d_P_load_67 d_P_load_70 ⟨by decide, by show _ + 82 ≤ 141; decide, by decide, by decide⟩ hlocks
      · have h := kb_in c h
        obtain ⟨rfl, rfl⟩ := kb_xt h
        exact kb_throw (k := 2) hx hb hlt hown wsE_2_fit (wsE_2_at hte hE.2.1) wsE_2_ot hE (List.mem_of_getElem? (i := 17) rfl) hw (hl.1.trans hml.symm) htab d_P_load_29 d_P_load_32 d_P_load_33 d_P_load_35 d_P_load_38 ⟨by decide, by show _ + 82 ≤ 141; decide, by decide, by decide⟩ hlocks
