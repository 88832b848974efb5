def f_P_isWithin (x0 x1 x2 : Int32) (M0 : Nat → Nat → Int32) : Option (Int32 × (Nat → Nat → Int32)) := (if x0 < x1 then some ((0 : Int32), M0) else (if x2 < x0 then some ((0 : Int32), M0) else some ((1 : Int32), M0)))
set_option maxHeartbeats 4000000 in
set_option maxRecDepth 100000 in
theorem c_P_isWithin (l : Launch) (D : va_G) (A : Nat → Nat) (G : Nat → ClassId) (x0 x1 x2 : Int32) (M0 : Nat → Nat → Int32) (r : Int32) (M' : Nat → Nat → Int32) (sz : Nat) (h : f_P_isWithin x0 x1 x2 M0 = some (r, M')) : kb_Ci l y_P_isWithin (Cond.code y_P_isWithin b_P_isWithin 3 (some .boolean) :: wsC) { frames := 0, cells := 0, slots := 0, locals := 0 } [.int x0, .int x1, .int x2] D kcl (tyC G) (wC A G M0) (wC A G M') nnC sz r := by
  refine Met.ofW (cc := b_P_isWithin) (maxL := 3) (ret := (some .boolean)) (by decide) rfl ?_
  intro p e s m args below meth c s₁ B hml hv
  obtain ⟨rfl, hpre⟩ := hv
  obtain ⟨hw, hN⟩ := kb_enter hpre
  have hx := B.exec
  have hb := B.bytes
  have hr := B.returns
  have hts := atoms_spec (ws := (Cond.code y_P_isWithin b_P_isWithin 3 (some .boolean) :: wsC)) B.pre
  have htw : ∀ w ∈ wsC, w.before ([.int x0, .int x1, .int x2] : List Value).toArray s = true := fun w h => hts w (List.mem_cons_of_mem _ h)
  have hown : s.vm.findClass "PileLifts" = some m.cls := findClass_of_methodNamed B.named
  have hlocks := B.notSynchronized
  have hl := lv_entry ([.int x0, .int x1, .int x2]) (n := 3) (Nat.le_of_ble_eq_true rfl)
  rw [lg_entry_eq]
  generalize (lg_sl ([.int x0, .int x1, .int x2]) ++ List.replicate (3 - (lg_sl ([.int x0, .int x1, .int x2])).length) Slot.unset).toArray = ls at hl ⊢
  have hl : lv_has ls 3 [(0, .int x0), (1, .int x1), (2, .int x2)] := hl
  rw [f_P_isWithin] at h
  refine lv_iload_n hx hb d_P_isWithin_0 rfl (lv_at hl 0 rfl) ?_
  refine lv_iload_n hx hb d_P_isWithin_1 rfl (lv_at hl 1 rfl) ?_
  refine lv_icmp_lt (tgt := 14) hx hb d_P_isWithin_2 (by decide) (fun c => ?_) (fun c => ?_)
  · have h := kb_ip c h
    refine lv_iconst (v := 0) hx hb d_P_isWithin_14 (by decide) ?_
    obtain ⟨rfl, rfl⟩ := kb_rt h
    exact kb_zret hx hb hr hw hlocks (Or.inl rfl) d_P_isWithin_15
  · have h := kb_in c h
    refine lv_iload_n hx hb d_P_isWithin_5 rfl (lv_at hl 0 rfl) ?_
    refine lv_iload_n hx hb d_P_isWithin_6 rfl (lv_at hl 2 rfl) ?_
    refine lv_icmp_gt (tgt := 14) hx hb d_P_isWithin_7 (by decide) (fun c => ?_) (fun c => ?_)
    · have h := kb_ip c h
      refine lv_iconst (v := 0) hx hb d_P_isWithin_14 (by decide) ?_
      obtain ⟨rfl, rfl⟩ := kb_rt h
      exact kb_zret hx hb hr hw hlocks (Or.inl rfl) d_P_isWithin_15
    · have h := kb_in c h
      refine lv_iconst (v := 1) hx hb d_P_isWithin_10 (by decide) ?_
      refine lv_goto (tgt := 15) hx hb d_P_isWithin_11 (by decide) ?_
      obtain ⟨rfl, rfl⟩ := kb_rt h
      exact kb_zret hx hb hr hw hlocks (Or.inr rfl) d_P_isWithin_15
def h_Y_clear_17 : Nat → Int32 → (Nat → Nat → Int32) → Option (Int32 × (Nat → Nat → Int32))
  | 0, _, _ => none
  | n + 1, u3, M => (if (4 : Int32) ≤ u3 then some ((0 : Int32), M) else kb_wr M 4 4 u3 (0 : Int32) (fun M4 => h_Y_clear_17 n (u3 + 1) M4))
def f_Y_clear (x1 x2 : Int32) (M0 : Nat → Nat → Int32) : Option (Int32 × (Nat → Nat → Int32)) := kb_st (kb_up M0 1 (upd (M0 1) 0 x1)) (fun M1 => kb_st (kb_up M1 1 (upd (M1 1) 1 x2)) (fun M2 => kb_st (kb_up M2 1 (upd (M2 1) 2 (0 : Int32))) (fun M3 => h_Y_clear_17 kb_F (0 : Int32) M3)))
set_option maxHeartbeats 4000000 in
set_option maxRecDepth 100000 in
theorem c_Y_clear (l : Launch) (D : va_G) (A : Nat → Nat) (G : Nat → ClassId) (x1 x2 : Int32) (M0 : Nat → Nat → Int32) (r : Int32) (M' : Nat → Nat → Int32) (sz : Nat) (h : f_Y_clear x1 x2 M0 = some (r, M')) : kb_Cv l y_Y_clear (Cond.code y_Y_clear b_Y_clear 4 none :: wsC) { frames := 0, cells := 0, slots := 0, locals := 0 } [.ref (A 1), .int x1, .int x2] D kcl (tyC G) (wC A G M0) (wC A G M') nnC sz := by
  refine Met.ofW (cc := b_Y_clear) (maxL := 4) (ret := none) (by decide) rfl ?_
  intro p e s m args below meth c s₁ B hml hv
  obtain ⟨rfl, hpre⟩ := hv
  obtain ⟨hw, hN⟩ := kb_enter hpre
  have hx := B.exec
  have hb := B.bytes
  have hr := B.returns
  have hts := atoms_spec (ws := (Cond.code y_Y_clear b_Y_clear 4 none :: wsC)) B.pre
  have htw : ∀ w ∈ wsC, w.before ([.ref (A 1), .int x1, .int x2] : List Value).toArray s = true := fun w h => hts w (List.mem_cons_of_mem _ h)
  have hown : s.vm.findClass "PileLifts$Yard" = some m.cls := findClass_of_methodNamed B.named
  have hlocks := B.notSynchronized
  have loop_17 : ∀ (n17 : Nat) (u3 : Int32) (M : Nat → Nat → Int32) (H : Heap) (locs : List Loc) (ls : Array Slot), h_Y_clear_17 n17 u3 M = some (r, M') → kb_K D kcl (tyC G) (wC A G M) s (va_A (wC A G M0) sz) H locs → lv_has ls 4 [(0, .ref (A 1)), (3, .int u3)] → W p l e (headSpec (Cond.code y_Y_clear b_Y_clear 4 none :: wsC) { frames := 0, cells := 0, slots := 0, locals := 0 }).room s m ([.ref (A 1), .int x1, .int x2] : List Value).toArray below meth c H locs 0 0 (kb_Qv D kcl (tyC G) (wC A G M0) (wC A G M') sz below ([.ref (A 1), .int x1, .int x2] : List Value).toArray s) (F0 m 17 ls []) := by
    intro n17
    induction n17 with
    | zero =>
      intro u3 M H locs ls h
      cases h
    | succ n17 ih =>
      intro u3 M H locs ls h hw hl
      rw [h_Y_clear_17] at h
      refine lv_iload_n hx hb d_Y_clear_17 rfl (lv_at hl 1 rfl) ?_
      refine lv_iconst (v := 4) hx hb d_Y_clear_18 (by decide) ?_
      refine lv_icmp_ge (tgt := 35) hx hb d_Y_clear_19 (by decide) (fun c => ?_) (fun c => ?_)
      · have h := kb_ip c h
        obtain ⟨-, rfl⟩ := kb_rt h
        exact kb_vret hx hb hr hw hlocks d_Y_clear_35
      · have h := kb_in c h
        refine lv_aload_n hx hb d_Y_clear_22 rfl (lv_at hl 0 rfl) ?_
        refine kb_get (own := "PileLifts$Yard") (ref := "PileLifts$Yard") (C := R_Y) (T := F_Y) (N := 10) hx hb htw i_Y hown hw 1 (wC_1 A G _) rfl 3 (by decide) (htw _ mC_19) rfl rfl d_Y_clear_23 ?_
        refine lv_iload_n hx hb d_Y_clear_26 rfl (lv_at hl 1 rfl) ?_
        refine lv_iconst (v := 0) hx hb d_Y_clear_27 (by decide) ?_
        obtain ⟨M4, eM4, hi, h⟩ := kb_wr_some h
        refine kb_ast (ws' := (wC A G M4)) hx hb hw 4 0 rfl rfl hi d_Y_clear_28 (by rw [eM4]; rfl) (fun H locs hw => ?_)
        refine lv_iinc (v := (u3 + 1)) (lv' := [(3, .int (u3 + 1)), (0, .ref (A 1))]) hx hb d_Y_clear_29 hl (k := 1) rfl rfl (by decide) rfl (fun ls hl => ?_)
        refine lv_goto (tgt := 17) hx hb d_Y_clear_32 (by decide) ?_
        exact ih (u3 + 1) M4 _ _ _ h hw (lv_sub hl [1, 0] rfl)
  have hl := lv_entry ([.ref (A 1), .int x1, .int x2]) (n := 4) (Nat.le_of_ble_eq_true rfl)
  rw [lg_entry_eq]
  generalize (lg_sl ([.ref (A 1), .int x1, .int x2]) ++ List.replicate (4 - (lg_sl ([.ref (A 1), .int x1, .int x2])).length) Slot.unset).toArray = ls at hl ⊢
  have hl : lv_has ls 4 [(0, .ref (A 1)), (1, .int x1), (2, .int x2)] := hl
  rw [f_Y_clear] at h
  refine lv_aload_n hx hb d_Y_clear_0 rfl (lv_at hl 0 rfl) ?_
  refine lv_iload_n hx hb d_Y_clear_1 rfl (lv_at hl 1 rfl) ?_
  obtain ⟨M1, eM1, h⟩ := kb_st_some h
  refine kb_put (ws' := (wC A G M1)) (own := "PileLifts$Yard") (ref := "PileLifts$Yard") (C := R_Y) (T := F_Y) (N := 10) (ty := .int) hx hb htw i_Y t_Y t_Y_ok n_Y hown hw 1 (wC_1 A G _) rfl 0 (by decide) (htw _ mC_16) rfl rfl (by decide +kernel) rfl rfl (Nat.le_of_ble_eq_true rfl) d_Y_clear_2 (by rw [eM1]; rfl) (fun H locs hw => ?_)
  refine lv_aload_n hx hb d_Y_clear_5 rfl (lv_at hl 0 rfl) ?_
  refine lv_iload_n hx hb d_Y_clear_6 rfl (lv_at hl 2 rfl) ?_
  obtain ⟨M2, eM2, h⟩ := kb_st_some h
  refine kb_put (ws' := (wC A G M2)) (own := "PileLifts$Yard") (ref := "PileLifts$Yard") (C := R_Y) (T := F_Y) (N := 10) (ty := .int) hx hb htw i_Y t_Y t_Y_ok n_Y hown hw 1 (wC_1 A G _) rfl 1 (by decide) (htw _ mC_17) rfl rfl (by decide +kernel) rfl rfl (Nat.le_of_ble_eq_true rfl) d_Y_clear_7 (by rw [eM2]; rfl) (fun H locs hw => ?_)
  refine lv_aload_n hx hb d_Y_clear_10 rfl (lv_at hl 0 rfl) ?_
  refine lv_iconst (v := 0) hx hb d_Y_clear_11 (by decide) ?_
  obtain ⟨M3, eM3, h⟩ := kb_st_some h
  refine kb_put (ws' := (wC A G M3)) (own := "PileLifts$Yard") (ref := "PileLifts$Yard") (C := R_Y) (T := F_Y) (N := 10) (ty := .int) hx hb htw i_Y t_Y t_Y_ok n_Y hown hw 1 (wC_1 A G _) rfl 2 (by decide) (htw _ mC_18) rfl rfl (by decide +kernel) rfl rfl (Nat.le_of_ble_eq_true rfl) d_Y_clear_12 (by rw [eM3]; rfl) (fun H locs hw => ?_)
  refine lv_iconst (v := 0) hx hb d_Y_clear_15 (by decide) ?_
  refine lv_istore_n (lv' := [(3, .int (0 : Int32)), (0, .ref (A 1)), (1, .int x1), (2, .int x2)]) hx hb d_Y_clear_16 rfl hl (by decide) rfl (fun ls hl => ?_)
  exact loop_17 kb_F (0 : Int32) M3 _ _ _ h hw (lv_sub hl [1, 0] rfl)
def h_W_clear_7 : Nat → Int32 → (Nat → Nat → Int32) → Option (Int32 × (Nat → Nat → Int32))
  | 0, _, _ => none
  | n + 1, u1, M => (if (10 : Int32) ≤ u1 then some ((0 : Int32), M) else kb_wr M 16 10 u1 (-1 : Int32) (fun M2 => h_W_clear_7 n (u1 + 1) M2))
def f_W_clear (M0 : Nat → Nat → Int32) : Option (Int32 × (Nat → Nat → Int32)) := kb_st (kb_up M0 3 (upd (M0 3) 0 (0 : Int32))) (fun M1 => h_W_clear_7 kb_F (0 : Int32) M1)
set_option maxHeartbeats 4000000 in
set_option maxRecDepth 100000 in
theorem c_W_clear (l : Launch) (D : va_G) (A : Nat → Nat) (G : Nat → ClassId) (M0 : Nat → Nat → Int32) (r : Int32) (M' : Nat → Nat → Int32) (sz : Nat) (h : f_W_clear M0 = some (r, M')) : kb_Cv l y_W_clear (Cond.code y_W_clear b_W_clear 2 none :: wsC) { frames := 0, cells := 0, slots := 0, locals := 0 } [.ref (A 3)] D kcl (tyC G) (wC A G M0) (wC A G M') nnC sz := by
  refine Met.ofW (cc := b_W_clear) (maxL := 2) (ret := none) (by decide) rfl ?_
  intro p e s m args below meth c s₁ B hml hv
  obtain ⟨rfl, hpre⟩ := hv
  obtain ⟨hw, hN⟩ := kb_enter hpre
  have hx := B.exec
  have hb := B.bytes
  have hr := B.returns
  have hts := atoms_spec (ws := (Cond.code y_W_clear b_W_clear 2 none :: wsC)) B.pre
  have htw : ∀ w ∈ wsC, w.before ([.ref (A 3)] : List Value).toArray s = true := fun w h => hts w (List.mem_cons_of_mem _ h)
  have hown : s.vm.findClass "PileLifts$Wagons" = some m.cls := findClass_of_methodNamed B.named
  have hlocks := B.notSynchronized
  have loop_7 : ∀ (n7 : Nat) (u1 : Int32) (M : Nat → Nat → Int32) (H : Heap) (locs : List Loc) (ls : Array Slot), h_W_clear_7 n7 u1 M = some (r, M') → kb_K D kcl (tyC G) (wC A G M) s (va_A (wC A G M0) sz) H locs → lv_has ls 2 [(0, .ref (A 3)), (1, .int u1)] → W p l e (headSpec (Cond.code y_W_clear b_W_clear 2 none :: wsC) { frames := 0, cells := 0, slots := 0, locals := 0 }).room s m ([.ref (A 3)] : List Value).toArray below meth c H locs 0 0 (kb_Qv D kcl (tyC G) (wC A G M0) (wC A G M') sz below ([.ref (A 3)] : List Value).toArray s) (F0 m 7 ls []) := by
    intro n7
    induction n7 with
    | zero =>
      intro u1 M H locs ls h
      cases h
    | succ n7 ih =>
      intro u1 M H locs ls h hw hl
      rw [h_W_clear_7] at h
      refine lv_iload_n hx hb d_W_clear_7 rfl (lv_at hl 1 rfl) ?_
      refine lv_bipush (v := 10) hx hb d_W_clear_8 (by decide) ?_
      refine lv_icmp_ge (tgt := 26) hx hb d_W_clear_10 (by decide) (fun c => ?_) (fun c => ?_)
      · have h := kb_ip c h
        obtain ⟨-, rfl⟩ := kb_rt h
        exact kb_vret hx hb hr hw hlocks d_W_clear_26
      · have h := kb_in c h
        refine lv_aload_n hx hb d_W_clear_13 rfl (lv_at hl 0 rfl) ?_
        refine kb_get (own := "PileLifts$Wagons") (ref := "PileLifts$Wagons") (C := R_W) (T := F_W) (N := 4) hx hb htw i_W hown hw 3 (wC_3 A G _) rfl 3 (by decide) (htw _ mC_72) rfl rfl d_W_clear_14 ?_
        refine lv_iload_n hx hb d_W_clear_17 rfl (lv_at hl 1 rfl) ?_
        refine lv_iconst (v := -1) hx hb d_W_clear_18 (by decide) ?_
        obtain ⟨M2, eM2, hi, h⟩ := kb_wr_some h
        refine kb_ast (ws' := (wC A G M2)) hx hb hw 16 12 rfl rfl hi d_W_clear_19 (by rw [eM2]; rfl) (fun H locs hw => ?_)
        refine lv_iinc (v := (u1 + 1)) (lv' := [(1, .int (u1 + 1)), (0, .ref (A 3))]) hx hb d_W_clear_20 hl (k := 1) rfl rfl (by decide) rfl (fun ls hl => ?_)
        refine lv_goto (tgt := 7) hx hb d_W_clear_23 (by decide) ?_
        exact ih (u1 + 1) M2 _ _ _ h hw (lv_sub hl [1, 0] rfl)
  have hl := lv_entry ([.ref (A 3)]) (n := 2) (Nat.le_of_ble_eq_true rfl)
  rw [lg_entry_eq]
  generalize (lg_sl ([.ref (A 3)]) ++ List.replicate (2 - (lg_sl ([.ref (A 3)])).length) Slot.unset).toArray = ls at hl ⊢
  have hl : lv_has ls 2 [(0, .ref (A 3))] := hl
  rw [f_W_clear] at h
  refine lv_aload_n hx hb d_W_clear_0 rfl (lv_at hl 0 rfl) ?_
  refine lv_iconst (v := 0) hx hb d_W_clear_1 (by decide) ?_
  obtain ⟨M1, eM1, h⟩ := kb_st_some h
  refine kb_put (ws' := (wC A G M1)) (own := "PileLifts$Wagons") (ref := "PileLifts$Wagons") (C := R_W) (T := F_W) (N := 4) (ty := .int) hx hb htw i_W t_W t_W_ok n_W hown hw 3 (wC_3 A G _) rfl 0 (by decide) (htw _ mC_69) rfl rfl (by decide +kernel) rfl rfl (Nat.le_of_ble_eq_true rfl) d_W_clear_2 (by rw [eM1]; rfl) (fun H locs hw => ?_)
  refine lv_iconst (v := 0) hx hb d_W_clear_5 (by decide) ?_
  refine lv_istore_n (lv' := [(1, .int (0 : Int32)), (0, .ref (A 3))]) hx hb d_W_clear_6 rfl hl (by decide) rfl (fun ls hl => ?_)
  exact loop_7 kb_F (0 : Int32) M1 _ _ _ h hw (lv_sub hl [1, 0] rfl)
def f_S_forget (M0 : Nat → Nat → Int32) : Option (Int32 × (Nat → Nat → Int32)) := kb_st (kb_up M0 2 (upd (M0 2) 0 (0 : Int32))) (fun M1 => kb_st (kb_up M1 2 (upd (M1 2) 1 (0 : Int32))) (fun M2 => kb_st (kb_up M2 2 (upd (M2 2) 2 (0 : Int32))) (fun M3 => kb_st (kb_up M3 2 (upd (M3 2) 6 (0 : Int32))) (fun M4 => some ((0 : Int32), M4)))))
set_option maxHeartbeats 4000000 in
set_option maxRecDepth 100000 in
theorem c_S_forget (l : Launch) (D : va_G) (A : Nat → Nat) (G : Nat → ClassId) (M0 : Nat → Nat → Int32) (r : Int32) (M' : Nat → Nat → Int32) (sz : Nat) (h : f_S_forget M0 = some (r, M')) : kb_Cv l y_S_forget (Cond.code y_S_forget b_S_forget 1 none :: wsC) { frames := 0, cells := 0, slots := 0, locals := 0 } [.ref (A 2)] D kcl (tyC G) (wC A G M0) (wC A G M') nnC sz := by
  refine Met.ofW (cc := b_S_forget) (maxL := 1) (ret := none) (by decide) rfl ?_
  intro p e s m args below meth c s₁ B hml hv
  obtain ⟨rfl, hpre⟩ := hv
  obtain ⟨hw, hN⟩ := kb_enter hpre
  have hx := B.exec
  have hb := B.bytes
  have hr := B.returns
  have hts := atoms_spec (ws := (Cond.code y_S_forget b_S_forget 1 none :: wsC)) B.pre
  have htw : ∀ w ∈ wsC, w.before ([.ref (A 2)] : List Value).toArray s = true := fun w h => hts w (List.mem_cons_of_mem _ h)
  have hown : s.vm.findClass "PileLifts$Search" = some m.cls := findClass_of_methodNamed B.named
  have hlocks := B.notSynchronized
  have hl := lv_entry ([.ref (A 2)]) (n := 1) (Nat.le_of_ble_eq_true rfl)
  rw [lg_entry_eq]
  generalize (lg_sl ([.ref (A 2)]) ++ List.replicate (1 - (lg_sl ([.ref (A 2)])).length) Slot.unset).toArray = ls at hl ⊢
  have hl : lv_has ls 1 [(0, .ref (A 2))] := hl
  rw [f_S_forget] at h
  refine lv_aload_n hx hb d_S_forget_0 rfl (lv_at hl 0 rfl) ?_
  refine lv_iconst (v := 0) hx hb d_S_forget_1 (by decide) ?_
  obtain ⟨M1, eM1, h⟩ := kb_st_some h
  refine kb_put (ws' := (wC A G M1)) (own := "PileLifts$Search") (ref := "PileLifts$Search") (C := R_S) (T := F_S) (N := 10) (ty := .boolean) hx hb htw i_S t_S t_S_ok n_S hown hw 2 (wC_2 A G _) rfl 0 (by decide) (htw _ mC_41) rfl rfl (by decide +kernel) (kb_nz (Or.inl rfl)) (kb_fz (Or.inl rfl)) (Nat.le_of_ble_eq_true rfl) d_S_forget_2 (by rw [eM1]; rfl) (fun H locs hw => ?_)
  refine lv_aload_n hx hb d_S_forget_5 rfl (lv_at hl 0 rfl) ?_
  refine lv_iconst (v := 0) hx hb d_S_forget_6 (by decide) ?_
  obtain ⟨M2, eM2, h⟩ := kb_st_some h
  refine kb_put (ws' := (wC A G M2)) (own := "PileLifts$Search") (ref := "PileLifts$Search") (C := R_S) (T := F_S) (N := 10) (ty := .boolean) hx hb htw i_S t_S t_S_ok n_S hown hw 2 (wC_2 A G _) rfl 1 (by decide) (htw _ mC_42) rfl rfl (by decide +kernel) (kb_nz (Or.inl rfl)) (kb_fz (Or.inl rfl)) (Nat.le_of_ble_eq_true rfl) d_S_forget_7 (by rw [eM2]; rfl) (fun H locs hw => ?_)
  refine lv_aload_n hx hb d_S_forget_10 rfl (lv_at hl 0 rfl) ?_
  refine lv_iconst (v := 0) hx hb d_S_forget_11 (by decide) ?_
  obtain ⟨M3, eM3, h⟩ := kb_st_some h
  refine kb_put (ws' := (wC A G M3)) (own := "PileLifts$Search") (ref := "PileLifts$Search") (C := R_S) (T := F_S) (N := 10) (ty := .boolean) hx hb htw i_S t_S t_S_ok n_S hown hw 2 (wC_2 A G _) rfl 2 (by decide) (htw _ mC_43) rfl rfl (by decide +kernel) (kb_nz (Or.inl rfl)) (kb_fz (Or.inl rfl)) (Nat.le_of_ble_eq_true rfl) d_S_forget_12 (by rw [eM3]; rfl) (fun H locs hw => ?_)
  refine lv_aload_n hx hb d_S_forget_15 rfl (lv_at hl 0 rfl) ?_
  refine lv_iconst (v := 0) hx hb d_S_forget_16 (by decide) ?_
  obtain ⟨M4, eM4, h⟩ := kb_st_some h
  refine kb_put (ws' := (wC A G M4)) (own := "PileLifts$Search") (ref := "PileLifts$Search") (C := R_S) (T := F_S) (N := 10) (ty := .int) hx hb htw i_S t_S t_S_ok n_S hown hw 2 (wC_2 A G _) rfl 6 (by decide) (htw _ mC_47) rfl rfl (by decide +kernel) rfl rfl (Nat.le_of_ble_eq_true rfl) d_S_forget_17 (by rw [eM4]; rfl) (fun H locs hw => ?_)
  obtain ⟨-, rfl⟩ := kb_rt h
  exact kb_vret hx hb hr hw hlocks d_S_forget_20
def f_P_piles (x1 x2 : Int32) (M0 : Nat → Nat → Int32) : Option (Int32 × (Nat → Nat → Int32)) := kb_cl (f_P_isWithin x1 (1 : Int32) (4 : Int32) M0) (fun r1 M2 => (if r1 = (0 : Int32) then none else kb_cl (f_P_isWithin x2 (1 : Int32) (5 : Int32) M2) (fun r3 M4 => (if r3 = (0 : Int32) then none else kb_cl (f_Y_clear x1 x2 M4) (fun r5 M6 => kb_cl (f_W_clear M6) (fun r7 M8 => kb_cl (f_S_forget M8) (fun r9 M10 => some ((0 : Int32), M10))))))))
set_option maxHeartbeats 4000000 in
set_option maxRecDepth 100000 in
theorem c_P_piles (l : Launch) (D : va_G) (A : Nat → Nat) (G : Nat → ClassId) (x1 x2 : Int32) (M0 : Nat → Nat → Int32) (r : Int32) (M' : Nat → Nat → Int32) (sz : Nat) (h : f_P_piles x1 x2 M0 = some (r, M')) : kb_Cv l y_P_piles (Cond.code y_P_piles b_P_piles 3 none :: wsC) { frames := 1, cells := 0, slots := 0, locals := 23 } [.ref (A 0), .int x1, .int x2] D kcl (tyC G) (wC A G M0) (wC A G M') nnC sz := by
  refine Met.ofW (cc := b_P_piles) (maxL := 3) (ret := none) (by decide) rfl ?_
  intro p e s m args below meth c s₁ B hml hv
  obtain ⟨rfl, hpre⟩ := hv
  obtain ⟨hw, hN⟩ := kb_enter hpre
  have hx := B.exec
  have hb := B.bytes
  have hr := B.returns
  have hts := atoms_spec (ws := (Cond.code y_P_piles b_P_piles 3 none :: wsC)) B.pre
  have htw : ∀ w ∈ wsC, w.before ([.ref (A 0), .int x1, .int x2] : List Value).toArray s = true := fun w h => hts w (List.mem_cons_of_mem _ h)
  have hown : s.vm.findClass "PileLifts" = some m.cls := findClass_of_methodNamed B.named
  have hlocks := B.notSynchronized
  have hl := lv_entry ([.ref (A 0), .int x1, .int x2]) (n := 3) (Nat.le_of_ble_eq_true rfl)
  rw [lg_entry_eq]
  generalize (lg_sl ([.ref (A 0), .int x1, .int x2]) ++ List.replicate (3 - (lg_sl ([.ref (A 0), .int x1, .int x2])).length) Slot.unset).toArray = ls at hl ⊢
  have hl : lv_has ls 3 [(0, .ref (A 0)), (1, .int x1), (2, .int x2)] := hl
  rw [f_P_piles] at h
  refine lv_iload_n hx hb d_P_piles_0 rfl (lv_at hl 1 rfl) ?_
  refine lv_iconst (v := 1) hx hb d_P_piles_1 (by decide) ?_
  refine lv_iconst (v := 4) hx hb d_P_piles_2 (by decide) ?_
  obtain ⟨r1, M2, hc, h⟩ := kb_cl_some h
  refine kb_calli0 (va_runS (As := [.int x1, .int (1 : Int32), .int (4 : Int32)]) (rest := []) ⟨hx, hb, hml, hown, htw⟩ (c_P_isWithin l D A G x1 (1 : Int32) (4 : Int32) M0 _ _ s.heap.size hc) ⟨(callB_of 3 htw (wsC_self mC_108) rfl rfl rfl (htw _ mC_0) (htw _ mC_106) q_P_isWithin ⟨by show 0 + 1 ≤ 1; omega, by show 8 + (3 + 11) + 0 ≤ 23; omega⟩), htw _ mC_107⟩ (kb_preS nnC_warm nnC_same hw hN ) rfl rfl hl.1 rfl (lv_room (Nat.le_of_ble_eq_true rfl)) d_P_piles_3 ⟨Nat.zero_le _, Nat.zero_le _⟩) hw (fun H locs hw => ?_)
  refine lv_if_eq (tgt := 18) hx hb d_P_piles_6 (by decide) (fun c => ?_) (fun c => ?_)
  · have h := kb_ip c h
    exact absurd h (by simp)
  · have h := kb_in c h
    refine lv_iload_n hx hb d_P_piles_9 rfl (lv_at hl 2 rfl) ?_
    refine lv_iconst (v := 1) hx hb d_P_piles_10 (by decide) ?_
    refine lv_iconst (v := 5) hx hb d_P_piles_11 (by decide) ?_
    obtain ⟨r3, M4, hc, h⟩ := kb_cl_some h
    refine kb_calli0 (va_runS (As := [.int x2, .int (1 : Int32), .int (5 : Int32)]) (rest := []) ⟨hx, hb, hml, hown, htw⟩ (c_P_isWithin l D A G x2 (1 : Int32) (5 : Int32) M2 _ _ H.size hc) ⟨(callB_of 3 htw (wsC_self mC_108) rfl rfl rfl (htw _ mC_0) (htw _ mC_106) q_P_isWithin ⟨by show 0 + 1 ≤ 1; omega, by show 8 + (3 + 11) + 0 ≤ 23; omega⟩), htw _ mC_107⟩ (kb_preS nnC_warm nnC_same hw hN ) rfl rfl hl.1 rfl (lv_room (Nat.le_of_ble_eq_true rfl)) d_P_piles_12 ⟨Nat.zero_le _, Nat.zero_le _⟩) hw (fun H locs hw => ?_)
    refine lv_if_ne (tgt := 28) hx hb d_P_piles_15 (by decide) (fun c => ?_) (fun c => ?_)
    · have h := kb_in c h
      refine lv_aload_n hx hb d_P_piles_28 rfl (lv_at hl 0 rfl) ?_
      refine kb_get (own := "PileLifts") (ref := "PileLifts") (C := R_P) (T := F_P) (N := 3) hx hb htw i_P hown hw 0 (wC_0 A G _) rfl 0 (by decide) (htw _ mC_77) rfl rfl d_P_piles_29 ?_
      refine lv_iload_n hx hb d_P_piles_32 rfl (lv_at hl 1 rfl) ?_
      refine lv_iload_n hx hb d_P_piles_33 rfl (lv_at hl 2 rfl) ?_
      obtain ⟨r5, M6, hc, h⟩ := kb_cl_some h
      refine kb_callv0 (va_runVN (As := [.int x1, .int x2]) (rest := []) ⟨hx, hb, hml, hown, htw⟩ (c_Y_clear l D A G x1 x2 M4 _ _ H.size hc) ⟨(va_cnB 2 htw (wsC_self mC_15) rfl rfl rfl (nm_P_41 hN) (htw _ mC_1) q_Y_clear ⟨by show 0 + 1 ≤ 1; omega, by show 8 + (4 + 11) + 0 ≤ 23; omega⟩), htw _ mC_14, htw _ mC_229⟩ (kb_preV nnC_warm nnC_same hw hN 1 (wC_1 A G _) rfl) rfl rfl hl.1 rfl (lv_room (Nat.le_of_ble_eq_true rfl)) d_P_piles_34 ⟨Nat.zero_le _, Nat.zero_le _⟩) hw (fun H locs hw => ?_)
      refine lv_aload_n hx hb d_P_piles_37 rfl (lv_at hl 0 rfl) ?_
      refine kb_get (own := "PileLifts") (ref := "PileLifts") (C := R_P) (T := F_P) (N := 3) hx hb htw i_P hown hw 0 (wC_0 A G _) rfl 2 (by decide) (htw _ mC_79) rfl rfl d_P_piles_38 ?_
      obtain ⟨r7, M8, hc, h⟩ := kb_cl_some h
      refine kb_callv0 (va_runVN (As := []) (rest := []) ⟨hx, hb, hml, hown, htw⟩ (c_W_clear l D A G M6 _ _ H.size hc) ⟨(va_cnB 0 htw (wsC_self mC_68) rfl rfl rfl (nm_P_45 hN) (htw _ mC_3) q_W_clear ⟨by show 0 + 1 ≤ 1; omega, by show 8 + (2 + 11) + 0 ≤ 23; omega⟩), htw _ mC_67, htw _ mC_230⟩ (kb_preV nnC_warm nnC_same hw hN 3 (wC_3 A G _) rfl) rfl rfl hl.1 rfl (lv_room (Nat.le_of_ble_eq_true rfl)) d_P_piles_41 ⟨Nat.zero_le _, Nat.zero_le _⟩) hw (fun H locs hw => ?_)
      refine lv_aload_n hx hb d_P_piles_44 rfl (lv_at hl 0 rfl) ?_
      refine kb_get (own := "PileLifts") (ref := "PileLifts") (C := R_P) (T := F_P) (N := 3) hx hb htw i_P hown hw 0 (wC_0 A G _) rfl 1 (by decide) (htw _ mC_78) rfl rfl d_P_piles_45 ?_
      obtain ⟨r9, M10, hc, h⟩ := kb_cl_some h
      refine kb_callv0 (va_runVN (As := []) (rest := []) ⟨hx, hb, hml, hown, htw⟩ (c_S_forget l D A G M8 _ _ H.size hc) ⟨(va_cnB 0 htw (wsC_self mC_112) rfl rfl rfl (nm_P_47 hN) (htw _ mC_2) q_S_forget ⟨by show 0 + 1 ≤ 1; omega, by show 8 + (1 + 11) + 0 ≤ 23; omega⟩), htw _ mC_111, htw _ mC_237⟩ (kb_preV nnC_warm nnC_same hw hN 2 (wC_2 A G _) rfl) rfl rfl hl.1 rfl (lv_room (Nat.le_of_ble_eq_true rfl)) d_P_piles_48 ⟨Nat.zero_le _, Nat.zero_le _⟩) hw (fun H locs hw => ?_)
      obtain ⟨-, rfl⟩ := kb_rt h
      exact kb_vret hx hb hr hw hlocks d_P_piles_51
    · have h := kb_ip c h
      exact absurd h (by simp)
def f_Y_hasPile (x1 : Int32) (M0 : Nat → Nat → Int32) : Option (Int32 × (Nat → Nat → Int32)) := kb_cl (f_P_isWithin x1 (0 : Int32) ((M0 1 0) - (1 : Int32)) M0) (fun r1 M2 => kb_bz r1 (some (r1, M2)))
set_option maxHeartbeats 4000000 in
set_option maxRecDepth 100000 in
theorem c_Y_hasPile (l : Launch) (D : va_G) (A : Nat → Nat) (G : Nat → ClassId) (x1 : Int32) (M0 : Nat → Nat → Int32) (r : Int32) (M' : Nat → Nat → Int32) (sz : Nat) (h : f_Y_hasPile x1 M0 = some (r, M')) : kb_Ci l y_Y_hasPile (Cond.code y_Y_hasPile b_Y_hasPile 2 (some .boolean) :: wsC) { frames := 1, cells := 0, slots := 0, locals := 22 } [.ref (A 1), .int x1] D kcl (tyC G) (wC A G M0) (wC A G M') nnC sz r := by
  refine Met.ofW (cc := b_Y_hasPile) (maxL := 2) (ret := (some .boolean)) (by decide) rfl ?_
  intro p e s m args below meth c s₁ B hml hv
  obtain ⟨rfl, hpre⟩ := hv
  obtain ⟨hw, hN⟩ := kb_enter hpre
  have hx := B.exec
  have hb := B.bytes
  have hr := B.returns
  have hts := atoms_spec (ws := (Cond.code y_Y_hasPile b_Y_hasPile 2 (some .boolean) :: wsC)) B.pre
  have htw : ∀ w ∈ wsC, w.before ([.ref (A 1), .int x1] : List Value).toArray s = true := fun w h => hts w (List.mem_cons_of_mem _ h)
  have hown : s.vm.findClass "PileLifts$Yard" = some m.cls := findClass_of_methodNamed B.named
  have hlocks := B.notSynchronized
  have hl := lv_entry ([.ref (A 1), .int x1]) (n := 2) (Nat.le_of_ble_eq_true rfl)
  rw [lg_entry_eq]
  generalize (lg_sl ([.ref (A 1), .int x1]) ++ List.replicate (2 - (lg_sl ([.ref (A 1), .int x1])).length) Slot.unset).toArray = ls at hl ⊢
  have hl : lv_has ls 2 [(0, .ref (A 1)), (1, .int x1)] := hl
  rw [f_Y_hasPile] at h
  refine lv_iload_n hx hb d_Y_hasPile_0 rfl (lv_at hl 1 rfl) ?_
  refine lv_iconst (v := 0) hx hb d_Y_hasPile_1 (by decide) ?_
  refine lv_aload_n hx hb d_Y_hasPile_2 rfl (lv_at hl 0 rfl) ?_
  refine kb_get (own := "PileLifts$Yard") (ref := "PileLifts$Yard") (C := R_Y) (T := F_Y) (N := 10) hx hb htw i_Y hown hw 1 (wC_1 A G _) rfl 0 (by decide) (htw _ mC_16) rfl rfl d_Y_hasPile_3 ?_
  refine lv_iconst (v := 1) hx hb d_Y_hasPile_6 (by decide) ?_
  refine lv_isub hx hb d_Y_hasPile_7 ?_
  obtain ⟨r1, M2, hc, h⟩ := kb_cl_some h
  refine kb_calli0 (va_runSN (As := [.int x1, .int (0 : Int32), .int ((M0 1 0) - (1 : Int32))]) (rest := []) ⟨hx, hb, hml, hown, htw⟩ (c_P_isWithin l D A G x1 (0 : Int32) ((M0 1 0) - (1 : Int32)) M0 _ _ s.heap.size hc) ⟨(va_cnB 3 htw (wsC_self mC_108) rfl rfl rfl (nm_Y_47 hN) (htw _ mC_0) q_P_isWithin ⟨by show 0 + 1 ≤ 1; omega, by show 8 + (3 + 11) + 0 ≤ 22; omega⟩), htw _ mC_107, trivial⟩ (kb_preS nnC_warm nnC_same hw hN ) rfl rfl hl.1 rfl (lv_room (Nat.le_of_ble_eq_true rfl)) d_Y_hasPile_8 ⟨Nat.zero_le _, Nat.zero_le _⟩) hw (fun H locs hw => ?_)
  obtain ⟨hz, h⟩ := kb_bz_some h
  obtain ⟨rfl, rfl⟩ := kb_rt h
  exact kb_zret hx hb hr hw hlocks hz d_Y_hasPile_11
def f_Y_pieceAt (x1 x2 : Int32) (M0 : Nat → Nat → Int32) : Option (Int32 × (Nat → Nat → Int32)) := kb_rd (M0 5) 20 ((x1 * (5 : Int32)) + x2) (fun v1 => some (v1, M0))
set_option maxHeartbeats 4000000 in
set_option maxRecDepth 100000 in
theorem c_Y_pieceAt (l : Launch) (D : va_G) (A : Nat → Nat) (G : Nat → ClassId) (x1 x2 : Int32) (M0 : Nat → Nat → Int32) (r : Int32) (M' : Nat → Nat → Int32) (sz : Nat) (h : f_Y_pieceAt x1 x2 M0 = some (r, M')) : kb_Ci l y_Y_pieceAt (Cond.code y_Y_pieceAt b_Y_pieceAt 3 (some .int) :: wsC) { frames := 0, cells := 0, slots := 0, locals := 0 } [.ref (A 1), .int x1, .int x2] D kcl (tyC G) (wC A G M0) (wC A G M') nnC sz r := by
  refine Met.ofW (cc := b_Y_pieceAt) (maxL := 3) (ret := (some .int)) (by decide) rfl ?_
  intro p e s m args below meth c s₁ B hml hv
  obtain ⟨rfl, hpre⟩ := hv
  obtain ⟨hw, hN⟩ := kb_enter hpre
  have hx := B.exec
  have hb := B.bytes
  have hr := B.returns
  have hts := atoms_spec (ws := (Cond.code y_Y_pieceAt b_Y_pieceAt 3 (some .int) :: wsC)) B.pre
  have htw : ∀ w ∈ wsC, w.before ([.ref (A 1), .int x1, .int x2] : List Value).toArray s = true := fun w h => hts w (List.mem_cons_of_mem _ h)
  have hown : s.vm.findClass "PileLifts$Yard" = some m.cls := findClass_of_methodNamed B.named
  have hlocks := B.notSynchronized
  have hl := lv_entry ([.ref (A 1), .int x1, .int x2]) (n := 3) (Nat.le_of_ble_eq_true rfl)
  rw [lg_entry_eq]
  generalize (lg_sl ([.ref (A 1), .int x1, .int x2]) ++ List.replicate (3 - (lg_sl ([.ref (A 1), .int x1, .int x2])).length) Slot.unset).toArray = ls at hl ⊢
  have hl : lv_has ls 3 [(0, .ref (A 1)), (1, .int x1), (2, .int x2)] := hl
  rw [f_Y_pieceAt] at h
  refine lv_aload_n hx hb d_Y_pieceAt_0 rfl (lv_at hl 0 rfl) ?_
  refine kb_get (own := "PileLifts$Yard") (ref := "PileLifts$Yard") (C := R_Y) (T := F_Y) (N := 10) hx hb htw i_Y hown hw 1 (wC_1 A G _) rfl 4 (by decide) (htw _ mC_20) rfl rfl d_Y_pieceAt_1 ?_
  refine lv_iload_n hx hb d_Y_pieceAt_4 rfl (lv_at hl 1 rfl) ?_
  refine lv_iconst (v := 5) hx hb d_Y_pieceAt_5 (by decide) ?_
  refine lv_imul hx hb d_Y_pieceAt_6 ?_
  refine lv_iload_n hx hb d_Y_pieceAt_7 rfl (lv_at hl 2 rfl) ?_
  refine lv_iadd hx hb d_Y_pieceAt_8 ?_
  obtain ⟨v1, ev1, hi, h⟩ := kb_rd_some h
  refine kb_ald hx hb hw 5 1 rfl rfl hi ev1 d_Y_pieceAt_9 ?_
  obtain ⟨rfl, rfl⟩ := kb_rt h
  exact kb_iret hx hb hr hw hlocks d_Y_pieceAt_10
def f_Y_topOf (x1 : Int32) (M0 : Nat → Nat → Int32) : Option (Int32 × (Nat → Nat → Int32)) := kb_rd (M0 4) 4 x1 (fun v1 => (if v1 = (0 : Int32) then some ((-1 : Int32), M0) else kb_rd (M0 4) 4 x1 (fun v2 => kb_cl (f_Y_pieceAt x1 (v2 - (1 : Int32)) M0) (fun r3 M4 => some (r3, M4)))))
set_option maxHeartbeats 4000000 in
set_option maxRecDepth 100000 in
theorem c_Y_topOf (l : Launch) (D : va_G) (A : Nat → Nat) (G : Nat → ClassId) (x1 : Int32) (M0 : Nat → Nat → Int32) (r : Int32) (M' : Nat → Nat → Int32) (sz : Nat) (h : f_Y_topOf x1 M0 = some (r, M')) : kb_Ci l y_Y_topOf (Cond.code y_Y_topOf b_Y_topOf 2 (some .int) :: wsC) { frames := 1, cells := 0, slots := 0, locals := 22 } [.ref (A 1), .int x1] D kcl (tyC G) (wC A G M0) (wC A G M') nnC sz r := by
  refine Met.ofW (cc := b_Y_topOf) (maxL := 2) (ret := (some .int)) (by decide) rfl ?_
  intro p e s m args below meth c s₁ B hml hv
  obtain ⟨rfl, hpre⟩ := hv
  obtain ⟨hw, hN⟩ := kb_enter hpre
  have hx := B.exec
  have hb := B.bytes
  have hr := B.returns
  have hts := atoms_spec (ws := (Cond.code y_Y_topOf b_Y_topOf 2 (some .int) :: wsC)) B.pre
  have htw : ∀ w ∈ wsC, w.before ([.ref (A 1), .int x1] : List Value).toArray s = true := fun w h => hts w (List.mem_cons_of_mem _ h)
  have hown : s.vm.findClass "PileLifts$Yard" = some m.cls := findClass_of_methodNamed B.named
  have hlocks := B.notSynchronized
  have hl := lv_entry ([.ref (A 1), .int x1]) (n := 2) (Nat.le_of_ble_eq_true rfl)
  rw [lg_entry_eq]
  generalize (lg_sl ([.ref (A 1), .int x1]) ++ List.replicate (2 - (lg_sl ([.ref (A 1), .int x1])).length) Slot.unset).toArray = ls at hl ⊢
  have hl : lv_has ls 2 [(0, .ref (A 1)), (1, .int x1)] := hl
  rw [f_Y_topOf] at h
  refine lv_aload_n hx hb d_Y_topOf_0 rfl (lv_at hl 0 rfl) ?_
  refine kb_get (own := "PileLifts$Yard") (ref := "PileLifts$Yard") (C := R_Y) (T := F_Y) (N := 10) hx hb htw i_Y hown hw 1 (wC_1 A G _) rfl 3 (by decide) (htw _ mC_19) rfl rfl d_Y_topOf_1 ?_
  refine lv_iload_n hx hb d_Y_topOf_4 rfl (lv_at hl 1 rfl) ?_
  obtain ⟨v1, ev1, hi, h⟩ := kb_rd_some h
  refine kb_ald hx hb hw 4 0 rfl rfl hi ev1 d_Y_topOf_5 ?_
  refine lv_if_ne (tgt := 13) hx hb d_Y_topOf_6 (by decide) (fun c => ?_) (fun c => ?_)
  · have h := kb_in c h
    refine lv_aload_n hx hb d_Y_topOf_13 rfl (lv_at hl 0 rfl) ?_
    refine lv_iload_n hx hb d_Y_topOf_14 rfl (lv_at hl 1 rfl) ?_
    refine lv_aload_n hx hb d_Y_topOf_15 rfl (lv_at hl 0 rfl) ?_
    refine kb_get (own := "PileLifts$Yard") (ref := "PileLifts$Yard") (C := R_Y) (T := F_Y) (N := 10) hx hb htw i_Y hown hw 1 (wC_1 A G _) rfl 3 (by decide) (htw _ mC_19) rfl rfl d_Y_topOf_16 ?_
    refine lv_iload_n hx hb d_Y_topOf_19 rfl (lv_at hl 1 rfl) ?_
    obtain ⟨v2, ev2, hi, h⟩ := kb_rd_some h
    refine kb_ald hx hb hw 4 0 rfl rfl hi ev2 d_Y_topOf_20 ?_
    refine lv_iconst (v := 1) hx hb d_Y_topOf_21 (by decide) ?_
    refine lv_isub hx hb d_Y_topOf_22 ?_
    obtain ⟨r3, M4, hc, h⟩ := kb_cl_some h
    refine kb_calli0 (va_runV (As := [.int x1, .int (v2 - (1 : Int32))]) (rest := []) ⟨hx, hb, hml, hown, htw⟩ (c_Y_pieceAt l D A G x1 (v2 - (1 : Int32)) M0 _ _ s.heap.size hc) ⟨(callB_of 2 htw (wsC_self mC_102) rfl rfl rfl (htw _ mC_1) (htw _ mC_100) q_Y_pieceAt ⟨by show 0 + 1 ≤ 1; omega, by show 8 + (3 + 11) + 0 ≤ 22; omega⟩), htw _ mC_101, htw _ mC_236⟩ (kb_preV nnC_warm nnC_same hw hN 1 (wC_1 A G _) rfl) rfl rfl hl.1 rfl (lv_room (Nat.le_of_ble_eq_true rfl)) d_Y_topOf_23 ⟨Nat.zero_le _, Nat.zero_le _⟩) hw (fun H locs hw => ?_)
    obtain ⟨rfl, rfl⟩ := kb_rt h
    exact kb_iret hx hb hr hw hlocks d_Y_topOf_26
  · have h := kb_ip c h
    refine lv_iconst (v := -1) hx hb d_Y_topOf_9 (by decide) ?_
    refine lv_goto (tgt := 26) hx hb d_Y_topOf_10 (by decide) ?_
    obtain ⟨rfl, rfl⟩ := kb_rt h
    exact kb_iret hx hb hr hw hlocks d_Y_topOf_26
def f_Y_takes (x1 x2 : Int32) (M0 : Nat → Nat → Int32) : Option (Int32 × (Nat → Nat → Int32)) := kb_rd (M0 4) 4 x1 (fun v1 => (if v1 < (M0 1 1) then kb_cl (f_Y_topOf x1 M0) (fun r2 M3 => (if r2 = (-1 : Int32) then some ((1 : Int32), M3) else kb_rd (M3 7) 10 r2 (fun v4 => (if v4 < x2 then some ((0 : Int32), M3) else some ((1 : Int32), M3))))) else some ((0 : Int32), M0)))
set_option maxHeartbeats 4000000 in
set_option maxRecDepth 100000 in
theorem c_Y_takes (l : Launch) (D : va_G) (A : Nat → Nat) (G : Nat → ClassId) (x1 x2 : Int32) (M0 : Nat → Nat → Int32) (r : Int32) (M' : Nat → Nat → Int32) (sz : Nat) (h : f_Y_takes x1 x2 M0 = some (r, M')) : kb_Ci l y_Y_takes (Cond.code y_Y_takes b_Y_takes 4 (some .boolean) :: wsC) { frames := 2, cells := 0, slots := 0, locals := 43 } [.ref (A 1), .int x1, .int x2] D kcl (tyC G) (wC A G M0) (wC A G M') nnC sz r := by
  refine Met.ofW (cc := b_Y_takes) (maxL := 4) (ret := (some .boolean)) (by decide) rfl ?_
  intro p e s m args below meth c s₁ B hml hv
  obtain ⟨rfl, hpre⟩ := hv
  obtain ⟨hw, hN⟩ := kb_enter hpre
  have hx := B.exec
  have hb := B.bytes
  have hr := B.returns
  have hts := atoms_spec (ws := (Cond.code y_Y_takes b_Y_takes 4 (some .boolean) :: wsC)) B.pre
  have htw : ∀ w ∈ wsC, w.before ([.ref (A 1), .int x1, .int x2] : List Value).toArray s = true := fun w h => hts w (List.mem_cons_of_mem _ h)
  have hown : s.vm.findClass "PileLifts$Yard" = some m.cls := findClass_of_methodNamed B.named
  have hlocks := B.notSynchronized
  have hl := lv_entry ([.ref (A 1), .int x1, .int x2]) (n := 4) (Nat.le_of_ble_eq_true rfl)
  rw [lg_entry_eq]
  generalize (lg_sl ([.ref (A 1), .int x1, .int x2]) ++ List.replicate (4 - (lg_sl ([.ref (A 1), .int x1, .int x2])).length) Slot.unset).toArray = ls at hl ⊢
  have hl : lv_has ls 4 [(0, .ref (A 1)), (1, .int x1), (2, .int x2)] := hl
  rw [f_Y_takes] at h
  refine lv_aload_n hx hb d_Y_takes_0 rfl (lv_at hl 0 rfl) ?_
  refine kb_get (own := "PileLifts$Yard") (ref := "PileLifts$Yard") (C := R_Y) (T := F_Y) (N := 10) hx hb htw i_Y hown hw 1 (wC_1 A G _) rfl 3 (by decide) (htw _ mC_19) rfl rfl d_Y_takes_1 ?_
  refine lv_iload_n hx hb d_Y_takes_4 rfl (lv_at hl 1 rfl) ?_
  obtain ⟨v1, ev1, hi, h⟩ := kb_rd_some h
  refine kb_ald hx hb hw 4 0 rfl rfl hi ev1 d_Y_takes_5 ?_
  refine lv_aload_n hx hb d_Y_takes_6 rfl (lv_at hl 0 rfl) ?_
  refine kb_get (own := "PileLifts$Yard") (ref := "PileLifts$Yard") (C := R_Y) (T := F_Y) (N := 10) hx hb htw i_Y hown hw 1 (wC_1 A G _) rfl 1 (by decide) (htw _ mC_17) rfl rfl d_Y_takes_7 ?_
  refine lv_icmp_lt (tgt := 15) hx hb d_Y_takes_10 (by decide) (fun c => ?_) (fun c => ?_)
  · have h := kb_ip c h
    refine lv_aload_n hx hb d_Y_takes_15 rfl (lv_at hl 0 rfl) ?_
    refine lv_iload_n hx hb d_Y_takes_16 rfl (lv_at hl 1 rfl) ?_
    obtain ⟨r2, M3, hc, h⟩ := kb_cl_some h
    refine kb_calli0 (va_runV (As := [.int x1]) (rest := []) ⟨hx, hb, hml, hown, htw⟩ (c_Y_topOf l D A G x1 M0 _ _ s.heap.size hc) ⟨(callB_of 1 htw (wsC_self mC_124) rfl rfl rfl (htw _ mC_1) (htw _ mC_122) q_Y_topOf ⟨by show 1 + 1 ≤ 2; omega, by show 8 + (2 + 11) + 22 ≤ 43; omega⟩), htw _ mC_123, htw _ mC_240⟩ (kb_preV nnC_warm nnC_same hw hN 1 (wC_1 A G _) rfl) rfl rfl hl.1 rfl (lv_room (Nat.le_of_ble_eq_true rfl)) d_Y_takes_17 ⟨Nat.zero_le _, Nat.zero_le _⟩) hw (fun H locs hw => ?_)
    refine lv_istore_n (lv' := [(3, .int r2), (0, .ref (A 1)), (1, .int x1), (2, .int x2)]) hx hb d_Y_takes_20 rfl hl (by decide) rfl (fun ls hl => ?_)
    refine lv_iload_n hx hb d_Y_takes_21 rfl (lv_at hl 0 rfl) ?_
    refine lv_iconst (v := -1) hx hb d_Y_takes_22 (by decide) ?_
    refine lv_icmp_eq (tgt := 36) hx hb d_Y_takes_23 (by decide) (fun c => ?_) (fun c => ?_)
    · have h := kb_ip c h
      refine lv_iconst (v := 1) hx hb d_Y_takes_36 (by decide) ?_
      refine lv_goto (tgt := 41) hx hb d_Y_takes_37 (by decide) ?_
      obtain ⟨rfl, rfl⟩ := kb_rt h
      exact kb_zret hx hb hr hw hlocks (Or.inr rfl) d_Y_takes_41
    · have h := kb_in c h
      refine lv_aload_n hx hb d_Y_takes_26 rfl (lv_at hl 1 rfl) ?_
      refine kb_get (own := "PileLifts$Yard") (ref := "PileLifts$Yard") (C := R_Y) (T := F_Y) (N := 10) hx hb htw i_Y hown hw 1 (wC_1 A G _) rfl 6 (by decide) (htw _ mC_22) rfl rfl d_Y_takes_27 ?_
      refine lv_iload_n hx hb d_Y_takes_30 rfl (lv_at hl 0 rfl) ?_
      obtain ⟨v4, ev4, hi, h⟩ := kb_rd_some h
      refine kb_ald hx hb hw 7 3 rfl rfl hi ev4 d_Y_takes_31 ?_
      refine lv_iload_n hx hb d_Y_takes_32 rfl (lv_at hl 3 rfl) ?_
      refine lv_icmp_lt (tgt := 40) hx hb d_Y_takes_33 (by decide) (fun c => ?_) (fun c => ?_)
      · have h := kb_ip c h
        refine lv_iconst (v := 0) hx hb d_Y_takes_40 (by decide) ?_
        obtain ⟨rfl, rfl⟩ := kb_rt h
        exact kb_zret hx hb hr hw hlocks (Or.inl rfl) d_Y_takes_41
      · have h := kb_in c h
        refine lv_iconst (v := 1) hx hb d_Y_takes_36 (by decide) ?_
        refine lv_goto (tgt := 41) hx hb d_Y_takes_37 (by decide) ?_
        obtain ⟨rfl, rfl⟩ := kb_rt h
        exact kb_zret hx hb hr hw hlocks (Or.inr rfl) d_Y_takes_41
  · have h := kb_in c h
    refine lv_iconst (v := 0) hx hb d_Y_takes_13 (by decide) ?_
    obtain ⟨rfl, rfl⟩ := kb_rt h
    exact kb_zret hx hb hr hw hlocks (Or.inl rfl) d_Y_takes_14
def f_Y_layOn (x1 x2 : Int32) (M0 : Nat → Nat → Int32) : Option (Int32 × (Nat → Nat → Int32)) := kb_rd (M0 4) 4 x2 (fun v1 => (if (5 : Int32) ≤ v1 then some ((0 : Int32), M0) else kb_wr M0 5 20 ((x2 * (5 : Int32)) + v1) x1 (fun M2 => kb_wr M2 4 4 x2 (v1 + (1 : Int32)) (fun M3 => kb_wr M3 9 10 x1 x2 (fun M4 => kb_wr M4 10 10 x1 v1 (fun M5 => some ((0 : Int32), M5)))))))
set_option maxHeartbeats 4000000 in
set_option maxRecDepth 100000 in
theorem c_Y_layOn (l : Launch) (D : va_G) (A : Nat → Nat) (G : Nat → ClassId) (x1 x2 : Int32) (M0 : Nat → Nat → Int32) (r : Int32) (M' : Nat → Nat → Int32) (sz : Nat) (h : f_Y_layOn x1 x2 M0 = some (r, M')) : kb_Cv l y_Y_layOn (Cond.code y_Y_layOn b_Y_layOn 4 none :: wsC) { frames := 0, cells := 0, slots := 0, locals := 0 } [.ref (A 1), .int x1, .int x2] D kcl (tyC G) (wC A G M0) (wC A G M') nnC sz := by
  refine Met.ofW (cc := b_Y_layOn) (maxL := 4) (ret := none) (by decide) rfl ?_
  intro p e s m args below meth c s₁ B hml hv
  obtain ⟨rfl, hpre⟩ := hv
  obtain ⟨hw, hN⟩ := kb_enter hpre
  have hx := B.exec
  have hb := B.bytes
  have hr := B.returns
  have hts := atoms_spec (ws := (Cond.code y_Y_layOn b_Y_layOn 4 none :: wsC)) B.pre
  have htw : ∀ w ∈ wsC, w.before ([.ref (A 1), .int x1, .int x2] : List Value).toArray s = true := fun w h => hts w (List.mem_cons_of_mem _ h)
  have hown : s.vm.findClass "PileLifts$Yard" = some m.cls := findClass_of_methodNamed B.named
  have hlocks := B.notSynchronized
  have hl := lv_entry ([.ref (A 1), .int x1, .int x2]) (n := 4) (Nat.le_of_ble_eq_true rfl)
  rw [lg_entry_eq]
  generalize (lg_sl ([.ref (A 1), .int x1, .int x2]) ++ List.replicate (4 - (lg_sl ([.ref (A 1), .int x1, .int x2])).length) Slot.unset).toArray = ls at hl ⊢
  have hl : lv_has ls 4 [(0, .ref (A 1)), (1, .int x1), (2, .int x2)] := hl
  rw [f_Y_layOn] at h
  refine lv_aload_n hx hb d_Y_layOn_0 rfl (lv_at hl 0 rfl) ?_
  refine kb_get (own := "PileLifts$Yard") (ref := "PileLifts$Yard") (C := R_Y) (T := F_Y) (N := 10) hx hb htw i_Y hown hw 1 (wC_1 A G _) rfl 3 (by decide) (htw _ mC_19) rfl rfl d_Y_layOn_1 ?_
  refine lv_iload_n hx hb d_Y_layOn_4 rfl (lv_at hl 2 rfl) ?_
  obtain ⟨v1, ev1, hi, h⟩ := kb_rd_some h
  refine kb_ald hx hb hw 4 0 rfl rfl hi ev1 d_Y_layOn_5 ?_
  refine lv_istore_n (lv' := [(3, .int v1), (0, .ref (A 1)), (1, .int x1), (2, .int x2)]) hx hb d_Y_layOn_6 rfl hl (by decide) rfl (fun ls hl => ?_)
  refine lv_iload_n hx hb d_Y_layOn_7 rfl (lv_at hl 0 rfl) ?_
  refine lv_iconst (v := 5) hx hb d_Y_layOn_8 (by decide) ?_
  refine lv_icmp_ge (tgt := 46) hx hb d_Y_layOn_9 (by decide) (fun c => ?_) (fun c => ?_)
  · have h := kb_ip c h
    obtain ⟨-, rfl⟩ := kb_rt h
    exact kb_vret hx hb hr hw hlocks d_Y_layOn_46
  · have h := kb_in c h
    refine lv_aload_n hx hb d_Y_layOn_12 rfl (lv_at hl 1 rfl) ?_
    refine kb_get (own := "PileLifts$Yard") (ref := "PileLifts$Yard") (C := R_Y) (T := F_Y) (N := 10) hx hb htw i_Y hown hw 1 (wC_1 A G _) rfl 4 (by decide) (htw _ mC_20) rfl rfl d_Y_layOn_13 ?_
    refine lv_iload_n hx hb d_Y_layOn_16 rfl (lv_at hl 3 rfl) ?_
    refine lv_iconst (v := 5) hx hb d_Y_layOn_17 (by decide) ?_
    refine lv_imul hx hb d_Y_layOn_18 ?_
    refine lv_iload_n hx hb d_Y_layOn_19 rfl (lv_at hl 0 rfl) ?_
    refine lv_iadd hx hb d_Y_layOn_20 ?_
    refine lv_iload_n hx hb d_Y_layOn_21 rfl (lv_at hl 2 rfl) ?_
    obtain ⟨M2, eM2, hi, h⟩ := kb_wr_some h
    refine kb_ast (ws' := (wC A G M2)) hx hb hw 5 1 rfl rfl hi d_Y_layOn_22 (by rw [eM2]; rfl) (fun H locs hw => ?_)
    refine lv_aload_n hx hb d_Y_layOn_23 rfl (lv_at hl 1 rfl) ?_
    refine kb_get (own := "PileLifts$Yard") (ref := "PileLifts$Yard") (C := R_Y) (T := F_Y) (N := 10) hx hb htw i_Y hown hw 1 (wC_1 A G _) rfl 3 (by decide) (htw _ mC_19) rfl rfl d_Y_layOn_24 ?_
    refine lv_iload_n hx hb d_Y_layOn_27 rfl (lv_at hl 3 rfl) ?_
    refine lv_iload_n hx hb d_Y_layOn_28 rfl (lv_at hl 0 rfl) ?_
    refine lv_iconst (v := 1) hx hb d_Y_layOn_29 (by decide) ?_
    refine lv_iadd hx hb d_Y_layOn_30 ?_
    obtain ⟨M3, eM3, hi, h⟩ := kb_wr_some h
    refine kb_ast (ws' := (wC A G M3)) hx hb hw 4 0 rfl rfl hi d_Y_layOn_31 (by rw [eM3]; rfl) (fun H locs hw => ?_)
    refine lv_aload_n hx hb d_Y_layOn_32 rfl (lv_at hl 1 rfl) ?_
    refine kb_get (own := "PileLifts$Yard") (ref := "PileLifts$Yard") (C := R_Y) (T := F_Y) (N := 10) hx hb htw i_Y hown hw 1 (wC_1 A G _) rfl 8 (by decide) (htw _ mC_24) rfl rfl d_Y_layOn_33 ?_
    refine lv_iload_n hx hb d_Y_layOn_36 rfl (lv_at hl 2 rfl) ?_
    refine lv_iload_n hx hb d_Y_layOn_37 rfl (lv_at hl 3 rfl) ?_
    obtain ⟨M4, eM4, hi, h⟩ := kb_wr_some h
    refine kb_ast (ws' := (wC A G M4)) hx hb hw 9 5 rfl rfl hi d_Y_layOn_38 (by rw [eM4]; rfl) (fun H locs hw => ?_)
    refine lv_aload_n hx hb d_Y_layOn_39 rfl (lv_at hl 1 rfl) ?_
    refine kb_get (own := "PileLifts$Yard") (ref := "PileLifts$Yard") (C := R_Y) (T := F_Y) (N := 10) hx hb htw i_Y hown hw 1 (wC_1 A G _) rfl 9 (by decide) (htw _ mC_25) rfl rfl d_Y_layOn_40 ?_
    refine lv_iload_n hx hb d_Y_layOn_43 rfl (lv_at hl 2 rfl) ?_
    refine lv_iload_n hx hb d_Y_layOn_44 rfl (lv_at hl 0 rfl) ?_
    obtain ⟨M5, eM5, hi, h⟩ := kb_wr_some h
    refine kb_ast (ws' := (wC A G M5)) hx hb hw 10 6 rfl rfl hi d_Y_layOn_45 (by rw [eM5]; rfl) (fun H locs hw => ?_)
    obtain ⟨-, rfl⟩ := kb_rt h
    exact kb_vret hx hb hr hw hlocks d_Y_layOn_46
def f_Y_add (x1 x2 x3 : Int32) (M0 : Nat → Nat → Int32) : Option (Int32 × (Nat → Nat → Int32)) := kb_st (kb_up M0 1 (upd (M0 1) 2 ((M0 1 2) + (1 : Int32)))) (fun M1 => kb_wr M1 6 10 (M0 1 2) x2 (fun M2 => kb_wr M2 7 10 (M0 1 2) x3 (fun M3 => kb_wr M3 8 10 (M0 1 2) (-1 : Int32) (fun M4 => kb_cl (f_Y_layOn (M0 1 2) x1 M4) (fun r5 M6 => some ((M0 1 2), M6))))))
set_option maxHeartbeats 4000000 in
set_option maxRecDepth 100000 in
theorem c_Y_add (l : Launch) (D : va_G) (A : Nat → Nat) (G : Nat → ClassId) (x1 x2 x3 : Int32) (M0 : Nat → Nat → Int32) (r : Int32) (M' : Nat → Nat → Int32) (sz : Nat) (h : f_Y_add x1 x2 x3 M0 = some (r, M')) : kb_Ci l y_Y_add (Cond.code y_Y_add b_Y_add 5 (some .int) :: wsC) { frames := 1, cells := 0, slots := 0, locals := 23 } [.ref (A 1), .int x1, .int x2, .int x3] D kcl (tyC G) (wC A G M0) (wC A G M') nnC sz r := by
  refine Met.ofW (cc := b_Y_add) (maxL := 5) (ret := (some .int)) (by decide) rfl ?_
  intro p e s m args below meth c s₁ B hml hv
  obtain ⟨rfl, hpre⟩ := hv
  obtain ⟨hw, hN⟩ := kb_enter hpre
  have hx := B.exec
  have hb := B.bytes
  have hr := B.returns
  have hts := atoms_spec (ws := (Cond.code y_Y_add b_Y_add 5 (some .int) :: wsC)) B.pre
  have htw : ∀ w ∈ wsC, w.before ([.ref (A 1), .int x1, .int x2, .int x3] : List Value).toArray s = true := fun w h => hts w (List.mem_cons_of_mem _ h)
  have hown : s.vm.findClass "PileLifts$Yard" = some m.cls := findClass_of_methodNamed B.named
  have hlocks := B.notSynchronized
  have hl := lv_entry ([.ref (A 1), .int x1, .int x2, .int x3]) (n := 5) (Nat.le_of_ble_eq_true rfl)
  rw [lg_entry_eq]
  generalize (lg_sl ([.ref (A 1), .int x1, .int x2, .int x3]) ++ List.replicate (5 - (lg_sl ([.ref (A 1), .int x1, .int x2, .int x3])).length) Slot.unset).toArray = ls at hl ⊢
  have hl : lv_has ls 5 [(0, .ref (A 1)), (1, .int x1), (2, .int x2), (3, .int x3)] := hl
  rw [f_Y_add] at h
  refine lv_aload_n hx hb d_Y_add_0 rfl (lv_at hl 0 rfl) ?_
  refine kb_get (own := "PileLifts$Yard") (ref := "PileLifts$Yard") (C := R_Y) (T := F_Y) (N := 10) hx hb htw i_Y hown hw 1 (wC_1 A G _) rfl 2 (by decide) (htw _ mC_18) rfl rfl d_Y_add_1 ?_
  refine lv_istore (lv' := [(4, .int (M0 1 2)), (0, .ref (A 1)), (1, .int x1), (2, .int x2), (3, .int x3)]) hx hb d_Y_add_4 hl (by decide) rfl (fun ls hl => ?_)
  refine lv_aload_n hx hb d_Y_add_6 rfl (lv_at hl 1 rfl) ?_
  refine lv_dup hx hb d_Y_add_7 rfl ?_
  refine kb_get (own := "PileLifts$Yard") (ref := "PileLifts$Yard") (C := R_Y) (T := F_Y) (N := 10) hx hb htw i_Y hown hw 1 (wC_1 A G _) rfl 2 (by decide) (htw _ mC_18) rfl rfl d_Y_add_8 ?_
  refine lv_iconst (v := 1) hx hb d_Y_add_11 (by decide) ?_
  refine lv_iadd hx hb d_Y_add_12 ?_
  obtain ⟨M1, eM1, h⟩ := kb_st_some h
  refine kb_put (ws' := (wC A G M1)) (own := "PileLifts$Yard") (ref := "PileLifts$Yard") (C := R_Y) (T := F_Y) (N := 10) (ty := .int) hx hb htw i_Y t_Y t_Y_ok n_Y hown hw 1 (wC_1 A G _) rfl 2 (by decide) (htw _ mC_18) rfl rfl (by decide +kernel) rfl rfl (Nat.le_of_ble_eq_true rfl) d_Y_add_13 (by rw [eM1]; rfl) (fun H locs hw => ?_)
  refine lv_aload_n hx hb d_Y_add_16 rfl (lv_at hl 1 rfl) ?_
  refine kb_get (own := "PileLifts$Yard") (ref := "PileLifts$Yard") (C := R_Y) (T := F_Y) (N := 10) hx hb htw i_Y hown hw 1 (wC_1 A G _) rfl 5 (by decide) (htw _ mC_21) rfl rfl d_Y_add_17 ?_
  refine lv_iload hx hb d_Y_add_20 (lv_at hl 0 rfl) ?_
  refine lv_iload_n hx hb d_Y_add_22 rfl (lv_at hl 3 rfl) ?_
  obtain ⟨M2, eM2, hi, h⟩ := kb_wr_some h
  refine kb_ast (ws' := (wC A G M2)) hx hb hw 6 2 rfl rfl hi d_Y_add_23 (by rw [eM2]; rfl) (fun H locs hw => ?_)
  refine lv_aload_n hx hb d_Y_add_24 rfl (lv_at hl 1 rfl) ?_
  refine kb_get (own := "PileLifts$Yard") (ref := "PileLifts$Yard") (C := R_Y) (T := F_Y) (N := 10) hx hb htw i_Y hown hw 1 (wC_1 A G _) rfl 6 (by decide) (htw _ mC_22) rfl rfl d_Y_add_25 ?_
  refine lv_iload hx hb d_Y_add_28 (lv_at hl 0 rfl) ?_
  refine lv_iload_n hx hb d_Y_add_30 rfl (lv_at hl 4 rfl) ?_
  obtain ⟨M3, eM3, hi, h⟩ := kb_wr_some h
  refine kb_ast (ws' := (wC A G M3)) hx hb hw 7 3 rfl rfl hi d_Y_add_31 (by rw [eM3]; rfl) (fun H locs hw => ?_)
  refine lv_aload_n hx hb d_Y_add_32 rfl (lv_at hl 1 rfl) ?_
  refine kb_get (own := "PileLifts$Yard") (ref := "PileLifts$Yard") (C := R_Y) (T := F_Y) (N := 10) hx hb htw i_Y hown hw 1 (wC_1 A G _) rfl 7 (by decide) (htw _ mC_23) rfl rfl d_Y_add_33 ?_
  refine lv_iload hx hb d_Y_add_36 (lv_at hl 0 rfl) ?_
  refine lv_iconst (v := -1) hx hb d_Y_add_38 (by decide) ?_
  obtain ⟨M4, eM4, hi, h⟩ := kb_wr_some h
  refine kb_ast (ws' := (wC A G M4)) hx hb hw 8 4 rfl rfl hi d_Y_add_39 (by rw [eM4]; rfl) (fun H locs hw => ?_)
  refine lv_aload_n hx hb d_Y_add_40 rfl (lv_at hl 1 rfl) ?_
  refine lv_iload hx hb d_Y_add_41 (lv_at hl 0 rfl) ?_
  refine lv_iload_n hx hb d_Y_add_43 rfl (lv_at hl 2 rfl) ?_
  obtain ⟨r5, M6, hc, h⟩ := kb_cl_some h
  refine kb_callv0 (va_runV (As := [.int (M0 1 2), .int x1]) (rest := []) ⟨hx, hb, hml, hown, htw⟩ (c_Y_layOn l D A G (M0 1 2) x1 M4 _ _ H.size hc) ⟨(callB_of 2 htw (wsC_self mC_131) rfl rfl rfl (htw _ mC_1) (htw _ mC_129) q_Y_layOn ⟨by show 0 + 1 ≤ 1; omega, by show 8 + (4 + 11) + 0 ≤ 23; omega⟩), htw _ mC_130, htw _ mC_242⟩ (kb_preV nnC_warm nnC_same hw hN 1 (wC_1 A G _) rfl) rfl rfl hl.1 rfl (lv_room (Nat.le_of_ble_eq_true rfl)) d_Y_add_44 ⟨Nat.zero_le _, Nat.zero_le _⟩) hw (fun H locs hw => ?_)
  refine lv_iload hx hb d_Y_add_47 (lv_at hl 0 rfl) ?_
  obtain ⟨rfl, rfl⟩ := kb_rt h
  exact kb_iret hx hb hr hw hlocks d_Y_add_49
def f_P_put (x1 x2 x3 : Int32) (M0 : Nat → Nat → Int32) : Option (Int32 × (Nat → Nat → Int32)) := kb_cl (f_Y_hasPile x1 M0) (fun r1 M2 => (if r1 = (0 : Int32) then none else kb_cl (f_P_isWithin x2 (1 : Int32) (1000 : Int32) M2) (fun r3 M4 => (if r3 = (0 : Int32) then none else kb_cl (f_P_isWithin x3 (1 : Int32) (100 : Int32) M4) (fun r5 M6 => (if r5 = (0 : Int32) then none else (if (10 : Int32) ≤ (M6 1 2) then none else kb_cl (f_Y_takes x1 x3 M6) (fun r7 M8 => (if r7 = (0 : Int32) then none else kb_cl (f_S_forget M8) (fun r9 M10 => kb_cl (f_Y_add x1 x2 x3 M10) (fun r11 M12 => some (r11, M12))))))))))))
set_option maxHeartbeats 4000000 in
set_option maxRecDepth 100000 in
theorem c_P_put (l : Launch) (D : va_G) (A : Nat → Nat) (G : Nat → ClassId) (x1 x2 x3 : Int32) (M0 : Nat → Nat → Int32) (r : Int32) (M' : Nat → Nat → Int32) (sz : Nat) (h : f_P_put x1 x2 x3 M0 = some (r, M')) : kb_Ci l y_P_put (Cond.code y_P_put b_P_put 4 (some .int) :: wsC) { frames := 3, cells := 0, slots := 0, locals := 66 } [.ref (A 0), .int x1, .int x2, .int x3] D kcl (tyC G) (wC A G M0) (wC A G M') nnC sz r := by
  refine Met.ofW (cc := b_P_put) (maxL := 4) (ret := (some .int)) (by decide) rfl ?_
  intro p e s m args below meth c s₁ B hml hv
  obtain ⟨rfl, hpre⟩ := hv
  obtain ⟨hw, hN⟩ := kb_enter hpre
  have hx := B.exec
  have hb := B.bytes
  have hr := B.returns
  have hts := atoms_spec (ws := (Cond.code y_P_put b_P_put 4 (some .int) :: wsC)) B.pre
  have htw : ∀ w ∈ wsC, w.before ([.ref (A 0), .int x1, .int x2, .int x3] : List Value).toArray s = true := fun w h => hts w (List.mem_cons_of_mem _ h)
  have hown : s.vm.findClass "PileLifts" = some m.cls := findClass_of_methodNamed B.named
  have hlocks := B.notSynchronized
  have hl := lv_entry ([.ref (A 0), .int x1, .int x2, .int x3]) (n := 4) (Nat.le_of_ble_eq_true rfl)
  rw [lg_entry_eq]
  generalize (lg_sl ([.ref (A 0), .int x1, .int x2, .int x3]) ++ List.replicate (4 - (lg_sl ([.ref (A 0), .int x1, .int x2, .int x3])).length) Slot.unset).toArray = ls at hl ⊢
  have hl : lv_has ls 4 [(0, .ref (A 0)), (1, .int x1), (2, .int x2), (3, .int x3)] := hl
  rw [f_P_put] at h
  refine lv_aload_n hx hb d_P_put_0 rfl (lv_at hl 0 rfl) ?_
  refine kb_get (own := "PileLifts") (ref := "PileLifts") (C := R_P) (T := F_P) (N := 3) hx hb htw i_P hown hw 0 (wC_0 A G _) rfl 0 (by decide) (htw _ mC_77) rfl rfl d_P_put_1 ?_
  refine lv_iload_n hx hb d_P_put_4 rfl (lv_at hl 1 rfl) ?_
  obtain ⟨r1, M2, hc, h⟩ := kb_cl_some h
  refine kb_calli0 (va_runVN (As := [.int x1]) (rest := []) ⟨hx, hb, hml, hown, htw⟩ (c_Y_hasPile l D A G x1 M0 _ _ s.heap.size hc) ⟨(va_cnB 1 htw (wsC_self mC_117) rfl rfl rfl (nm_P_50 hN) (htw _ mC_1) q_Y_hasPile ⟨by show 1 + 1 ≤ 3; omega, by show 8 + (2 + 11) + 22 ≤ 66; omega⟩), htw _ mC_116, htw _ mC_238⟩ (kb_preV nnC_warm nnC_same hw hN 1 (wC_1 A G _) rfl) rfl rfl hl.1 rfl (lv_room (Nat.le_of_ble_eq_true rfl)) d_P_put_5 ⟨Nat.zero_le _, Nat.zero_le _⟩) hw (fun H locs hw => ?_)
  refine lv_if_ne (tgt := 21) hx hb d_P_put_8 (by decide) (fun c => ?_) (fun c => ?_)
  · have h := kb_in c h
    refine lv_iload_n hx hb d_P_put_21 rfl (lv_at hl 2 rfl) ?_
    refine lv_iconst (v := 1) hx hb d_P_put_22 (by decide) ?_
    refine lv_sipush (v := 1000) hx hb d_P_put_23 (by decide) ?_
    obtain ⟨r3, M4, hc, h⟩ := kb_cl_some h
    refine kb_calli0 (va_runS (As := [.int x2, .int (1 : Int32), .int (1000 : Int32)]) (rest := []) ⟨hx, hb, hml, hown, htw⟩ (c_P_isWithin l D A G x2 (1 : Int32) (1000 : Int32) M2 _ _ H.size hc) ⟨(callB_of 3 htw (wsC_self mC_108) rfl rfl rfl (htw _ mC_0) (htw _ mC_106) q_P_isWithin ⟨by show 0 + 1 ≤ 3; omega, by show 8 + (3 + 11) + 0 ≤ 66; omega⟩), htw _ mC_107⟩ (kb_preS nnC_warm nnC_same hw hN ) rfl rfl hl.1 rfl (lv_room (Nat.le_of_ble_eq_true rfl)) d_P_put_26 ⟨Nat.zero_le _, Nat.zero_le _⟩) hw (fun H locs hw => ?_)
    refine lv_if_eq (tgt := 42) hx hb d_P_put_29 (by decide) (fun c => ?_) (fun c => ?_)
    · have h := kb_ip c h
      exact absurd h (by simp)
    · have h := kb_in c h
      refine lv_iload_n hx hb d_P_put_32 rfl (lv_at hl 3 rfl) ?_
      refine lv_iconst (v := 1) hx hb d_P_put_33 (by decide) ?_
      refine lv_bipush (v := 100) hx hb d_P_put_34 (by decide) ?_
      obtain ⟨r5, M6, hc, h⟩ := kb_cl_some h
      refine kb_calli0 (va_runS (As := [.int x3, .int (1 : Int32), .int (100 : Int32)]) (rest := []) ⟨hx, hb, hml, hown, htw⟩ (c_P_isWithin l D A G x3 (1 : Int32) (100 : Int32) M4 _ _ H.size hc) ⟨(callB_of 3 htw (wsC_self mC_108) rfl rfl rfl (htw _ mC_0) (htw _ mC_106) q_P_isWithin ⟨by show 0 + 1 ≤ 3; omega, by show 8 + (3 + 11) + 0 ≤ 66; omega⟩), htw _ mC_107⟩ (kb_preS nnC_warm nnC_same hw hN ) rfl rfl hl.1 rfl (lv_room (Nat.le_of_ble_eq_true rfl)) d_P_put_36 ⟨Nat.zero_le _, Nat.zero_le _⟩) hw (fun H locs hw => ?_)
      refine lv_if_ne (tgt := 52) hx hb d_P_put_39 (by decide) (fun c => ?_) (fun c => ?_)
      · have h := kb_in c h
        refine lv_aload_n hx hb d_P_put_52 rfl (lv_at hl 0 rfl) ?_
        refine kb_get (own := "PileLifts") (ref := "PileLifts") (C := R_P) (T := F_P) (N := 3) hx hb htw i_P hown hw 0 (wC_0 A G _) rfl 0 (by decide) (htw _ mC_77) rfl rfl d_P_put_53 ?_
        refine kb_getN (own := "PileLifts") (ref := "PileLifts$Yard") (C := R_Y) (T := F_Y) (N := 10) hx hb htw i_Y hown hw 1 (wC_1 A G _) rfl 2 (by decide) (va_Nw.use rfl (nf_P_61 hN)) rfl rfl d_P_put_56 ?_
        refine lv_bipush (v := 10) hx hb d_P_put_59 (by decide) ?_
        refine lv_icmp_ge (tgt := 76) hx hb d_P_put_61 (by decide) (fun c => ?_) (fun c => ?_)
        · have h := kb_ip c h
          exact absurd h (by simp)
        · have h := kb_in c h
          refine lv_aload_n hx hb d_P_put_64 rfl (lv_at hl 0 rfl) ?_
          refine kb_get (own := "PileLifts") (ref := "PileLifts") (C := R_P) (T := F_P) (N := 3) hx hb htw i_P hown hw 0 (wC_0 A G _) rfl 0 (by decide) (htw _ mC_77) rfl rfl d_P_put_65 ?_
          refine lv_iload_n hx hb d_P_put_68 rfl (lv_at hl 1 rfl) ?_
          refine lv_iload_n hx hb d_P_put_69 rfl (lv_at hl 3 rfl) ?_
          obtain ⟨r7, M8, hc, h⟩ := kb_cl_some h
          refine kb_calli0 (va_runVN (As := [.int x1, .int x3]) (rest := []) ⟨hx, hb, hml, hown, htw⟩ (c_Y_takes l D A G x1 x3 M6 _ _ H.size hc) ⟨(va_cnB 2 htw (wsC_self mC_121) rfl rfl rfl (nm_P_65 hN) (htw _ mC_1) q_Y_takes ⟨by show 2 + 1 ≤ 3; omega, by show 8 + (4 + 11) + 43 ≤ 66; omega⟩), htw _ mC_120, htw _ mC_239⟩ (kb_preV nnC_warm nnC_same hw hN 1 (wC_1 A G _) rfl) rfl rfl hl.1 rfl (lv_room (Nat.le_of_ble_eq_true rfl)) d_P_put_70 ⟨Nat.zero_le _, Nat.zero_le _⟩) hw (fun H locs hw => ?_)
          refine lv_if_ne (tgt := 86) hx hb d_P_put_73 (by decide) (fun c => ?_) (fun c => ?_)
          · have h := kb_in c h
            refine lv_aload_n hx hb d_P_put_86 rfl (lv_at hl 0 rfl) ?_
            refine kb_get (own := "PileLifts") (ref := "PileLifts") (C := R_P) (T := F_P) (N := 3) hx hb htw i_P hown hw 0 (wC_0 A G _) rfl 1 (by decide) (htw _ mC_78) rfl rfl d_P_put_87 ?_
            obtain ⟨r9, M10, hc, h⟩ := kb_cl_some h
            refine kb_callv0 (va_runVN (As := []) (rest := []) ⟨hx, hb, hml, hown, htw⟩ (c_S_forget l D A G M8 _ _ H.size hc) ⟨(va_cnB 0 htw (wsC_self mC_112) rfl rfl rfl (nm_P_47 hN) (htw _ mC_2) q_S_forget ⟨by show 0 + 1 ≤ 3; omega, by show 8 + (1 + 11) + 0 ≤ 66; omega⟩), htw _ mC_111, htw _ mC_237⟩ (kb_preV nnC_warm nnC_same hw hN 2 (wC_2 A G _) rfl) rfl rfl hl.1 rfl (lv_room (Nat.le_of_ble_eq_true rfl)) d_P_put_90 ⟨Nat.zero_le _, Nat.zero_le _⟩) hw (fun H locs hw => ?_)
            refine lv_aload_n hx hb d_P_put_93 rfl (lv_at hl 0 rfl) ?_
            refine kb_get (own := "PileLifts") (ref := "PileLifts") (C := R_P) (T := F_P) (N := 3) hx hb htw i_P hown hw 0 (wC_0 A G _) rfl 0 (by decide) (htw _ mC_77) rfl rfl d_P_put_94 ?_
            refine lv_iload_n hx hb d_P_put_97 rfl (lv_at hl 1 rfl) ?_
            refine lv_iload_n hx hb d_P_put_98 rfl (lv_at hl 2 rfl) ?_
            refine lv_iload_n hx hb d_P_put_99 rfl (lv_at hl 3 rfl) ?_
            obtain ⟨r11, M12, hc, h⟩ := kb_cl_some h
            refine kb_calli0 (va_runVN (As := [.int x1, .int x2, .int x3]) (rest := []) ⟨hx, hb, hml, hown, htw⟩ (c_Y_add l D A G x1 x2 x3 M10 _ _ H.size hc) ⟨(va_cnB 3 htw (wsC_self mC_128) rfl rfl rfl (nm_P_74 hN) (htw _ mC_1) q_Y_add ⟨by show 1 + 1 ≤ 3; omega, by show 8 + (5 + 11) + 23 ≤ 66; omega⟩), htw _ mC_127, htw _ mC_241⟩ (kb_preV nnC_warm nnC_same hw hN 1 (wC_1 A G _) rfl) rfl rfl hl.1 rfl (lv_room (Nat.le_of_ble_eq_true rfl)) d_P_put_100 ⟨Nat.zero_le _, Nat.zero_le _⟩) hw (fun H locs hw => ?_)
            obtain ⟨rfl, rfl⟩ := kb_rt h
            exact kb_iret hx hb hr hw hlocks d_P_put_103
          · have h := kb_ip c h
            exact absurd h (by simp)
      · have h := kb_ip c h
        exact absurd h (by simp)
  · have h := kb_ip c h
    exact absurd h (by simp)
def f_Y_hasPiece (x1 : Int32) (M0 : Nat → Nat → Int32) : Option (Int32 × (Nat → Nat → Int32)) := kb_cl (f_P_isWithin x1 (0 : Int32) ((M0 1 2) - (1 : Int32)) M0) (fun r1 M2 => kb_bz r1 (some (r1, M2)))
set_option maxHeartbeats 4000000 in
set_option maxRecDepth 100000 in
theorem c_Y_hasPiece (l : Launch) (D : va_G) (A : Nat → Nat) (G : Nat → ClassId) (x1 : Int32) (M0 : Nat → Nat → Int32) (r : Int32) (M' : Nat → Nat → Int32) (sz : Nat) (h : f_Y_hasPiece x1 M0 = some (r, M')) : kb_Ci l y_Y_hasPiece (Cond.code y_Y_hasPiece b_Y_hasPiece 2 (some .boolean) :: wsC) { frames := 1, cells := 0, slots := 0, locals := 22 } [.ref (A 1), .int x1] D kcl (tyC G) (wC A G M0) (wC A G M') nnC sz r := by
  refine Met.ofW (cc := b_Y_hasPiece) (maxL := 2) (ret := (some .boolean)) (by decide) rfl ?_
  intro p e s m args below meth c s₁ B hml hv
  obtain ⟨rfl, hpre⟩ := hv
  obtain ⟨hw, hN⟩ := kb_enter hpre
  have hx := B.exec
  have hb := B.bytes
  have hr := B.returns
  have hts := atoms_spec (ws := (Cond.code y_Y_hasPiece b_Y_hasPiece 2 (some .boolean) :: wsC)) B.pre
  have htw : ∀ w ∈ wsC, w.before ([.ref (A 1), .int x1] : List Value).toArray s = true := fun w h => hts w (List.mem_cons_of_mem _ h)
  have hown : s.vm.findClass "PileLifts$Yard" = some m.cls := findClass_of_methodNamed B.named
  have hlocks := B.notSynchronized
  have hl := lv_entry ([.ref (A 1), .int x1]) (n := 2) (Nat.le_of_ble_eq_true rfl)
  rw [lg_entry_eq]
  generalize (lg_sl ([.ref (A 1), .int x1]) ++ List.replicate (2 - (lg_sl ([.ref (A 1), .int x1])).length) Slot.unset).toArray = ls at hl ⊢
  have hl : lv_has ls 2 [(0, .ref (A 1)), (1, .int x1)] := hl
  rw [f_Y_hasPiece] at h
  refine lv_iload_n hx hb d_Y_hasPiece_0 rfl (lv_at hl 1 rfl) ?_
  refine lv_iconst (v := 0) hx hb d_Y_hasPiece_1 (by decide) ?_
  refine lv_aload_n hx hb d_Y_hasPiece_2 rfl (lv_at hl 0 rfl) ?_
  refine kb_get (own := "PileLifts$Yard") (ref := "PileLifts$Yard") (C := R_Y) (T := F_Y) (N := 10) hx hb htw i_Y hown hw 1 (wC_1 A G _) rfl 2 (by decide) (htw _ mC_18) rfl rfl d_Y_hasPiece_3 ?_
  refine lv_iconst (v := 1) hx hb d_Y_hasPiece_6 (by decide) ?_
  refine lv_isub hx hb d_Y_hasPiece_7 ?_
  obtain ⟨r1, M2, hc, h⟩ := kb_cl_some h
  refine kb_calli0 (va_runSN (As := [.int x1, .int (0 : Int32), .int ((M0 1 2) - (1 : Int32))]) (rest := []) ⟨hx, hb, hml, hown, htw⟩ (c_P_isWithin l D A G x1 (0 : Int32) ((M0 1 2) - (1 : Int32)) M0 _ _ s.heap.size hc) ⟨(va_cnB 3 htw (wsC_self mC_108) rfl rfl rfl (nm_Y_47 hN) (htw _ mC_0) q_P_isWithin ⟨by show 0 + 1 ≤ 1; omega, by show 8 + (3 + 11) + 0 ≤ 22; omega⟩), htw _ mC_107, trivial⟩ (kb_preS nnC_warm nnC_same hw hN ) rfl rfl hl.1 rfl (lv_room (Nat.le_of_ble_eq_true rfl)) d_Y_hasPiece_8 ⟨Nat.zero_le _, Nat.zero_le _⟩) hw (fun H locs hw => ?_)
  obtain ⟨hz, h⟩ := kb_bz_some h
  obtain ⟨rfl, rfl⟩ := kb_rt h
  exact kb_zret hx hb hr hw hlocks hz d_Y_hasPiece_11
def f_P_checkPiece (x1 : Int32) (M0 : Nat → Nat → Int32) : Option (Int32 × (Nat → Nat → Int32)) := kb_cl (f_Y_hasPiece x1 M0) (fun r1 M2 => (if r1 = (0 : Int32) then none else some ((0 : Int32), M2)))
set_option maxHeartbeats 4000000 in
set_option maxRecDepth 100000 in
theorem c_P_checkPiece (l : Launch) (D : va_G) (A : Nat → Nat) (G : Nat → ClassId) (x1 : Int32) (M0 : Nat → Nat → Int32) (r : Int32) (M' : Nat → Nat → Int32) (sz : Nat) (h : f_P_checkPiece x1 M0 = some (r, M')) : kb_Cv l y_P_checkPiece (Cond.code y_P_checkPiece b_P_checkPiece 2 none :: wsC) { frames := 2, cells := 0, slots := 0, locals := 43 } [.ref (A 0), .int x1] D kcl (tyC G) (wC A G M0) (wC A G M') nnC sz := by
  refine Met.ofW (cc := b_P_checkPiece) (maxL := 2) (ret := none) (by decide) rfl ?_
  intro p e s m args below meth c s₁ B hml hv
  obtain ⟨rfl, hpre⟩ := hv
  obtain ⟨hw, hN⟩ := kb_enter hpre
  have hx := B.exec
  have hb := B.bytes
  have hr := B.returns
  have hts := atoms_spec (ws := (Cond.code y_P_checkPiece b_P_checkPiece 2 none :: wsC)) B.pre
  have htw : ∀ w ∈ wsC, w.before ([.ref (A 0), .int x1] : List Value).toArray s = true := fun w h => hts w (List.mem_cons_of_mem _ h)
  have hown : s.vm.findClass "PileLifts" = some m.cls := findClass_of_methodNamed B.named
  have hlocks := B.notSynchronized
  have hl := lv_entry ([.ref (A 0), .int x1]) (n := 2) (Nat.le_of_ble_eq_true rfl)
  rw [lg_entry_eq]
  generalize (lg_sl ([.ref (A 0), .int x1]) ++ List.replicate (2 - (lg_sl ([.ref (A 0), .int x1])).length) Slot.unset).toArray = ls at hl ⊢
  have hl : lv_has ls 2 [(0, .ref (A 0)), (1, .int x1)] := hl
  rw [f_P_checkPiece] at h
  refine lv_aload_n hx hb d_P_checkPiece_0 rfl (lv_at hl 0 rfl) ?_
  refine kb_get (own := "PileLifts") (ref := "PileLifts") (C := R_P) (T := F_P) (N := 3) hx hb htw i_P hown hw 0 (wC_0 A G _) rfl 0 (by decide) (htw _ mC_77) rfl rfl d_P_checkPiece_1 ?_
  refine lv_iload_n hx hb d_P_checkPiece_4 rfl (lv_at hl 1 rfl) ?_
  obtain ⟨r1, M2, hc, h⟩ := kb_cl_some h
  refine kb_calli0 (va_runVN (As := [.int x1]) (rest := []) ⟨hx, hb, hml, hown, htw⟩ (c_Y_hasPiece l D A G x1 M0 _ _ s.heap.size hc) ⟨(va_cnB 1 htw (wsC_self mC_139) rfl rfl rfl (nm_P_188 hN) (htw _ mC_1) q_Y_hasPiece ⟨by show 1 + 1 ≤ 2; omega, by show 8 + (2 + 11) + 22 ≤ 43; omega⟩), htw _ mC_138, htw _ mC_244⟩ (kb_preV nnC_warm nnC_same hw hN 1 (wC_1 A G _) rfl) rfl rfl hl.1 rfl (lv_room (Nat.le_of_ble_eq_true rfl)) d_P_checkPiece_5 ⟨Nat.zero_le _, Nat.zero_le _⟩) hw (fun H locs hw => ?_)
  refine lv_if_ne (tgt := 21) hx hb d_P_checkPiece_8 (by decide) (fun c => ?_) (fun c => ?_)
  · have h := kb_in c h
    obtain ⟨-, rfl⟩ := kb_rt h
    exact kb_vret hx hb hr hw hlocks d_P_checkPiece_21
  · have h := kb_ip c h
    exact absurd h (by simp)
def f_Y_isGone (x1 : Int32) (M0 : Nat → Nat → Int32) : Option (Int32 × (Nat → Nat → Int32)) := kb_rd (M0 9) 10 x1 (fun v1 => (if v1 = (-1 : Int32) then some ((1 : Int32), M0) else some ((0 : Int32), M0)))
set_option maxHeartbeats 4000000 in
set_option maxRecDepth 100000 in
theorem c_Y_isGone (l : Launch) (D : va_G) (A : Nat → Nat) (G : Nat → ClassId) (x1 : Int32) (M0 : Nat → Nat → Int32) (r : Int32) (M' : Nat → Nat → Int32) (sz : Nat) (h : f_Y_isGone x1 M0 = some (r, M')) : kb_Ci l y_Y_isGone (Cond.code y_Y_isGone b_Y_isGone 2 (some .boolean) :: wsC) { frames := 0, cells := 0, slots := 0, locals := 0 } [.ref (A 1), .int x1] D kcl (tyC G) (wC A G M0) (wC A G M') nnC sz r := by
  refine Met.ofW (cc := b_Y_isGone) (maxL := 2) (ret := (some .boolean)) (by decide) rfl ?_
  intro p e s m args below meth c s₁ B hml hv
  obtain ⟨rfl, hpre⟩ := hv
  obtain ⟨hw, hN⟩ := kb_enter hpre
  have hx := B.exec
  have hb := B.bytes
  have hr := B.returns
  have hts := atoms_spec (ws := (Cond.code y_Y_isGone b_Y_isGone 2 (some .boolean) :: wsC)) B.pre
  have htw : ∀ w ∈ wsC, w.before ([.ref (A 1), .int x1] : List Value).toArray s = true := fun w h => hts w (List.mem_cons_of_mem _ h)
  have hown : s.vm.findClass "PileLifts$Yard" = some m.cls := findClass_of_methodNamed B.named
  have hlocks := B.notSynchronized
  have hl := lv_entry ([.ref (A 1), .int x1]) (n := 2) (Nat.le_of_ble_eq_true rfl)
  rw [lg_entry_eq]
  generalize (lg_sl ([.ref (A 1), .int x1]) ++ List.replicate (2 - (lg_sl ([.ref (A 1), .int x1])).length) Slot.unset).toArray = ls at hl ⊢
  have hl : lv_has ls 2 [(0, .ref (A 1)), (1, .int x1)] := hl
  rw [f_Y_isGone] at h
  refine lv_aload_n hx hb d_Y_isGone_0 rfl (lv_at hl 0 rfl) ?_
  refine kb_get (own := "PileLifts$Yard") (ref := "PileLifts$Yard") (C := R_Y) (T := F_Y) (N := 10) hx hb htw i_Y hown hw 1 (wC_1 A G _) rfl 8 (by decide) (htw _ mC_24) rfl rfl d_Y_isGone_1 ?_
  refine lv_iload_n hx hb d_Y_isGone_4 rfl (lv_at hl 1 rfl) ?_
  obtain ⟨v1, ev1, hi, h⟩ := kb_rd_some h
  refine kb_ald hx hb hw 9 5 rfl rfl hi ev1 d_Y_isGone_5 ?_
  refine lv_iconst (v := -1) hx hb d_Y_isGone_6 (by decide) ?_
  refine lv_icmp_ne (tgt := 14) hx hb d_Y_isGone_7 (by decide) (fun c => ?_) (fun c => ?_)
  · have h := kb_in c h
    refine lv_iconst (v := 0) hx hb d_Y_isGone_14 (by decide) ?_
    obtain ⟨rfl, rfl⟩ := kb_rt h
    exact kb_zret hx hb hr hw hlocks (Or.inl rfl) d_Y_isGone_15
  · have h := kb_ip c h
    refine lv_iconst (v := 1) hx hb d_Y_isGone_10 (by decide) ?_
    refine lv_goto (tgt := 15) hx hb d_Y_isGone_11 (by decide) ?_
    obtain ⟨rfl, rfl⟩ := kb_rt h
    exact kb_zret hx hb hr hw hlocks (Or.inr rfl) d_Y_isGone_15
def f_P_want (x1 x2 : Int32) (M0 : Nat → Nat → Int32) : Option (Int32 × (Nat → Nat → Int32)) := kb_cl (f_P_checkPiece x1 M0) (fun r1 M2 => kb_cl (f_Y_isGone x1 M2) (fun r3 M4 => (if r3 = (0 : Int32) then kb_cl (f_P_isWithin x2 (-1 : Int32) (99 : Int32) M4) (fun r5 M6 => (if r5 = (0 : Int32) then none else kb_cl (f_S_forget M6) (fun r7 M8 => kb_wr M8 8 10 x1 x2 (fun M9 => some ((0 : Int32), M9))))) else none)))
set_option maxHeartbeats 4000000 in
set_option maxRecDepth 100000 in
theorem c_P_want (l : Launch) (D : va_G) (A : Nat → Nat) (G : Nat → ClassId) (x1 x2 : Int32) (M0 : Nat → Nat → Int32) (r : Int32) (M' : Nat → Nat → Int32) (sz : Nat) (h : f_P_want x1 x2 M0 = some (r, M')) : kb_Cv l y_P_want (Cond.code y_P_want b_P_want 3 none :: wsC) { frames := 3, cells := 0, slots := 0, locals := 64 } [.ref (A 0), .int x1, .int x2] D kcl (tyC G) (wC A G M0) (wC A G M') nnC sz := by
  refine Met.ofW (cc := b_P_want) (maxL := 3) (ret := none) (by decide) rfl ?_
  intro p e s m args below meth c s₁ B hml hv
  obtain ⟨rfl, hpre⟩ := hv
  obtain ⟨hw, hN⟩ := kb_enter hpre
  have hx := B.exec
  have hb := B.bytes
  have hr := B.returns
  have hts := atoms_spec (ws := (Cond.code y_P_want b_P_want 3 none :: wsC)) B.pre
  have htw : ∀ w ∈ wsC, w.before ([.ref (A 0), .int x1, .int x2] : List Value).toArray s = true := fun w h => hts w (List.mem_cons_of_mem _ h)
  have hown : s.vm.findClass "PileLifts" = some m.cls := findClass_of_methodNamed B.named
  have hlocks := B.notSynchronized
  have hl := lv_entry ([.ref (A 0), .int x1, .int x2]) (n := 3) (Nat.le_of_ble_eq_true rfl)
  rw [lg_entry_eq]
  generalize (lg_sl ([.ref (A 0), .int x1, .int x2]) ++ List.replicate (3 - (lg_sl ([.ref (A 0), .int x1, .int x2])).length) Slot.unset).toArray = ls at hl ⊢
  have hl : lv_has ls 3 [(0, .ref (A 0)), (1, .int x1), (2, .int x2)] := hl
  rw [f_P_want] at h
  refine lv_aload_n hx hb d_P_want_0 rfl (lv_at hl 0 rfl) ?_
  refine lv_iload_n hx hb d_P_want_1 rfl (lv_at hl 1 rfl) ?_
  obtain ⟨r1, M2, hc, h⟩ := kb_cl_some h
  refine kb_callv0 (va_runV (As := [.int x1]) (rest := []) ⟨hx, hb, hml, hown, htw⟩ (c_P_checkPiece l D A G x1 M0 _ _ s.heap.size hc) ⟨(callB_of 1 htw (wsC_self mC_137) rfl rfl rfl (htw _ mC_0) (htw _ mC_135) q_P_checkPiece ⟨by show 2 + 1 ≤ 3; omega, by show 8 + (2 + 11) + 43 ≤ 64; omega⟩), htw _ mC_136, htw _ mC_243⟩ (kb_preV nnC_warm nnC_same hw hN 0 (wC_0 A G _) rfl) rfl rfl hl.1 rfl (lv_room (Nat.le_of_ble_eq_true rfl)) d_P_want_2 ⟨Nat.zero_le _, Nat.zero_le _⟩) hw (fun H locs hw => ?_)
  refine lv_aload_n hx hb d_P_want_5 rfl (lv_at hl 0 rfl) ?_
  refine kb_get (own := "PileLifts") (ref := "PileLifts") (C := R_P) (T := F_P) (N := 3) hx hb htw i_P hown hw 0 (wC_0 A G _) rfl 0 (by decide) (htw _ mC_77) rfl rfl d_P_want_6 ?_
  refine lv_iload_n hx hb d_P_want_9 rfl (lv_at hl 1 rfl) ?_
  obtain ⟨r3, M4, hc, h⟩ := kb_cl_some h
  refine kb_calli0 (va_runVN (As := [.int x1]) (rest := []) ⟨hx, hb, hml, hown, htw⟩ (c_Y_isGone l D A G x1 M2 _ _ H.size hc) ⟨(va_cnB 1 htw (wsC_self mC_93) rfl rfl rfl (nm_P_82 hN) (htw _ mC_1) q_Y_isGone ⟨by show 0 + 1 ≤ 3; omega, by show 8 + (2 + 11) + 0 ≤ 64; omega⟩), htw _ mC_92, htw _ mC_233⟩ (kb_preV nnC_warm nnC_same hw hN 1 (wC_1 A G _) rfl) rfl rfl hl.1 rfl (lv_room (Nat.le_of_ble_eq_true rfl)) d_P_want_10 ⟨Nat.zero_le _, Nat.zero_le _⟩) hw (fun H locs hw => ?_)
  refine lv_if_eq (tgt := 26) hx hb d_P_want_13 (by decide) (fun c => ?_) (fun c => ?_)
  · have h := kb_ip c h
    refine lv_iload_n hx hb d_P_want_26 rfl (lv_at hl 2 rfl) ?_
    refine lv_iconst (v := -1) hx hb d_P_want_27 (by decide) ?_
    refine lv_bipush (v := 99) hx hb d_P_want_28 (by decide) ?_
    obtain ⟨r5, M6, hc, h⟩ := kb_cl_some h
    refine kb_calli0 (va_runS (As := [.int x2, .int (-1 : Int32), .int (99 : Int32)]) (rest := []) ⟨hx, hb, hml, hown, htw⟩ (c_P_isWithin l D A G x2 (-1 : Int32) (99 : Int32) M4 _ _ H.size hc) ⟨(callB_of 3 htw (wsC_self mC_108) rfl rfl rfl (htw _ mC_0) (htw _ mC_106) q_P_isWithin ⟨by show 0 + 1 ≤ 3; omega, by show 8 + (3 + 11) + 0 ≤ 64; omega⟩), htw _ mC_107⟩ (kb_preS nnC_warm nnC_same hw hN ) rfl rfl hl.1 rfl (lv_room (Nat.le_of_ble_eq_true rfl)) d_P_want_30 ⟨Nat.zero_le _, Nat.zero_le _⟩) hw (fun H locs hw => ?_)
    refine lv_if_ne (tgt := 46) hx hb d_P_want_33 (by decide) (fun c => ?_) (fun c => ?_)
    · have h := kb_in c h
      refine lv_aload_n hx hb d_P_want_46 rfl (lv_at hl 0 rfl) ?_
      refine kb_get (own := "PileLifts") (ref := "PileLifts") (C := R_P) (T := F_P) (N := 3) hx hb htw i_P hown hw 0 (wC_0 A G _) rfl 1 (by decide) (htw _ mC_78) rfl rfl d_P_want_47 ?_
      obtain ⟨r7, M8, hc, h⟩ := kb_cl_some h
      refine kb_callv0 (va_runVN (As := []) (rest := []) ⟨hx, hb, hml, hown, htw⟩ (c_S_forget l D A G M6 _ _ H.size hc) ⟨(va_cnB 0 htw (wsC_self mC_112) rfl rfl rfl (nm_P_47 hN) (htw _ mC_2) q_S_forget ⟨by show 0 + 1 ≤ 3; omega, by show 8 + (1 + 11) + 0 ≤ 64; omega⟩), htw _ mC_111, htw _ mC_237⟩ (kb_preV nnC_warm nnC_same hw hN 2 (wC_2 A G _) rfl) rfl rfl hl.1 rfl (lv_room (Nat.le_of_ble_eq_true rfl)) d_P_want_50 ⟨Nat.zero_le _, Nat.zero_le _⟩) hw (fun H locs hw => ?_)
      refine lv_aload_n hx hb d_P_want_53 rfl (lv_at hl 0 rfl) ?_
      refine kb_get (own := "PileLifts") (ref := "PileLifts") (C := R_P) (T := F_P) (N := 3) hx hb htw i_P hown hw 0 (wC_0 A G _) rfl 0 (by decide) (htw _ mC_77) rfl rfl d_P_want_54 ?_
      refine kb_getN (own := "PileLifts") (ref := "PileLifts$Yard") (C := R_Y) (T := F_Y) (N := 10) hx hb htw i_Y hown hw 1 (wC_1 A G _) rfl 7 (by decide) (va_Nw.use rfl (nf_P_92 hN)) rfl rfl d_P_want_57 ?_
      refine lv_iload_n hx hb d_P_want_60 rfl (lv_at hl 1 rfl) ?_
      refine lv_iload_n hx hb d_P_want_61 rfl (lv_at hl 2 rfl) ?_
      obtain ⟨M9, eM9, hi, h⟩ := kb_wr_some h
      refine kb_ast (ws' := (wC A G M9)) hx hb hw 8 4 rfl rfl hi d_P_want_62 (by rw [eM9]; rfl) (fun H locs hw => ?_)
      obtain ⟨-, rfl⟩ := kb_rt h
      exact kb_vret hx hb hr hw hlocks d_P_want_63
    · have h := kb_ip c h
      exact absurd h (by simp)
  · have h := kb_in c h
    exact absurd h (by simp)
def f_P_may (x1 x2 : Int32) (M0 : Nat → Nat → Int32) : Option (Int32 × (Nat → Nat → Int32)) := kb_cl (f_P_checkPiece x1 M0) (fun r1 M2 => kb_cl (f_P_checkPiece x2 M2) (fun r3 M4 => kb_rd (M4 7) 10 x1 (fun v5 => kb_rd (M4 7) 10 x2 (fun v6 => (if v5 < v6 then some ((0 : Int32), M4) else some ((1 : Int32), M4))))))
set_option maxHeartbeats 4000000 in
set_option maxRecDepth 100000 in
theorem c_P_may (l : Launch) (D : va_G) (A : Nat → Nat) (G : Nat → ClassId) (x1 x2 : Int32) (M0 : Nat → Nat → Int32) (r : Int32) (M' : Nat → Nat → Int32) (sz : Nat) (h : f_P_may x1 x2 M0 = some (r, M')) : kb_Ci l y_P_may (Cond.code y_P_may b_P_may 3 (some .boolean) :: wsC) { frames := 3, cells := 0, slots := 0, locals := 64 } [.ref (A 0), .int x1, .int x2] D kcl (tyC G) (wC A G M0) (wC A G M') nnC sz r := by
  refine Met.ofW (cc := b_P_may) (maxL := 3) (ret := (some .boolean)) (by decide) rfl ?_
  intro p e s m args below meth c s₁ B hml hv
  obtain ⟨rfl, hpre⟩ := hv
  obtain ⟨hw, hN⟩ := kb_enter hpre
  have hx := B.exec
  have hb := B.bytes
  have hr := B.returns
  have hts := atoms_spec (ws := (Cond.code y_P_may b_P_may 3 (some .boolean) :: wsC)) B.pre
  have htw : ∀ w ∈ wsC, w.before ([.ref (A 0), .int x1, .int x2] : List Value).toArray s = true := fun w h => hts w (List.mem_cons_of_mem _ h)
  have hown : s.vm.findClass "PileLifts" = some m.cls := findClass_of_methodNamed B.named
  have hlocks := B.notSynchronized
  have hl := lv_entry ([.ref (A 0), .int x1, .int x2]) (n := 3) (Nat.le_of_ble_eq_true rfl)
  rw [lg_entry_eq]
  generalize (lg_sl ([.ref (A 0), .int x1, .int x2]) ++ List.replicate (3 - (lg_sl ([.ref (A 0), .int x1, .int x2])).length) Slot.unset).toArray = ls at hl ⊢
  have hl : lv_has ls 3 [(0, .ref (A 0)), (1, .int x1), (2, .int x2)] := hl
  rw [f_P_may] at h
  refine lv_aload_n hx hb d_P_may_0 rfl (lv_at hl 0 rfl) ?_
  refine lv_iload_n hx hb d_P_may_1 rfl (lv_at hl 1 rfl) ?_
  obtain ⟨r1, M2, hc, h⟩ := kb_cl_some h
  refine kb_callv0 (va_runV (As := [.int x1]) (rest := []) ⟨hx, hb, hml, hown, htw⟩ (c_P_checkPiece l D A G x1 M0 _ _ s.heap.size hc) ⟨(callB_of 1 htw (wsC_self mC_137) rfl rfl rfl (htw _ mC_0) (htw _ mC_135) q_P_checkPiece ⟨by show 2 + 1 ≤ 3; omega, by show 8 + (2 + 11) + 43 ≤ 64; omega⟩), htw _ mC_136, htw _ mC_243⟩ (kb_preV nnC_warm nnC_same hw hN 0 (wC_0 A G _) rfl) rfl rfl hl.1 rfl (lv_room (Nat.le_of_ble_eq_true rfl)) d_P_may_2 ⟨Nat.zero_le _, Nat.zero_le _⟩) hw (fun H locs hw => ?_)
  refine lv_aload_n hx hb d_P_may_5 rfl (lv_at hl 0 rfl) ?_
  refine lv_iload_n hx hb d_P_may_6 rfl (lv_at hl 2 rfl) ?_
  obtain ⟨r3, M4, hc, h⟩ := kb_cl_some h
  refine kb_callv0 (va_runV (As := [.int x2]) (rest := []) ⟨hx, hb, hml, hown, htw⟩ (c_P_checkPiece l D A G x2 M2 _ _ H.size hc) ⟨(callB_of 1 htw (wsC_self mC_137) rfl rfl rfl (htw _ mC_0) (htw _ mC_135) q_P_checkPiece ⟨by show 2 + 1 ≤ 3; omega, by show 8 + (2 + 11) + 43 ≤ 64; omega⟩), htw _ mC_136, htw _ mC_243⟩ (kb_preV nnC_warm nnC_same hw hN 0 (wC_0 A G _) rfl) rfl rfl hl.1 rfl (lv_room (Nat.le_of_ble_eq_true rfl)) d_P_may_7 ⟨Nat.zero_le _, Nat.zero_le _⟩) hw (fun H locs hw => ?_)
  refine lv_aload_n hx hb d_P_may_10 rfl (lv_at hl 0 rfl) ?_
  refine kb_get (own := "PileLifts") (ref := "PileLifts") (C := R_P) (T := F_P) (N := 3) hx hb htw i_P hown hw 0 (wC_0 A G _) rfl 0 (by decide) (htw _ mC_77) rfl rfl d_P_may_11 ?_
  refine kb_getN (own := "PileLifts") (ref := "PileLifts$Yard") (C := R_Y) (T := F_Y) (N := 10) hx hb htw i_Y hown hw 1 (wC_1 A G _) rfl 6 (by decide) (va_Nw.use rfl (nf_P_96 hN)) rfl rfl d_P_may_14 ?_
  refine lv_iload_n hx hb d_P_may_17 rfl (lv_at hl 1 rfl) ?_
  obtain ⟨v5, ev5, hi, h⟩ := kb_rd_some h
  refine kb_ald hx hb hw 7 3 rfl rfl hi ev5 d_P_may_18 ?_
  refine lv_aload_n hx hb d_P_may_19 rfl (lv_at hl 0 rfl) ?_
  refine kb_get (own := "PileLifts") (ref := "PileLifts") (C := R_P) (T := F_P) (N := 3) hx hb htw i_P hown hw 0 (wC_0 A G _) rfl 0 (by decide) (htw _ mC_77) rfl rfl d_P_may_20 ?_
  refine kb_getN (own := "PileLifts") (ref := "PileLifts$Yard") (C := R_Y) (T := F_Y) (N := 10) hx hb htw i_Y hown hw 1 (wC_1 A G _) rfl 6 (by decide) (va_Nw.use rfl (nf_P_96 hN)) rfl rfl d_P_may_23 ?_
  refine lv_iload_n hx hb d_P_may_26 rfl (lv_at hl 2 rfl) ?_
  obtain ⟨v6, ev6, hi, h⟩ := kb_rd_some h
  refine kb_ald hx hb hw 7 3 rfl rfl hi ev6 d_P_may_27 ?_
  refine lv_icmp_lt (tgt := 35) hx hb d_P_may_28 (by decide) (fun c => ?_) (fun c => ?_)
  · have h := kb_ip c h
    refine lv_iconst (v := 0) hx hb d_P_may_35 (by decide) ?_
    obtain ⟨rfl, rfl⟩ := kb_rt h
    exact kb_zret hx hb hr hw hlocks (Or.inl rfl) d_P_may_36
  · have h := kb_in c h
    refine lv_iconst (v := 1) hx hb d_P_may_31 (by decide) ?_
    refine lv_goto (tgt := 36) hx hb d_P_may_32 (by decide) ?_
    obtain ⟨rfl, rfl⟩ := kb_rt h
    exact kb_zret hx hb hr hw hlocks (Or.inr rfl) d_P_may_36
def f_Y_turnOf (x1 : Int32) (M0 : Nat → Nat → Int32) : Option (Int32 × (Nat → Nat → Int32)) := kb_rd (M0 8) 10 x1 (fun v1 => (if v1 = (-1 : Int32) then some ((1000 : Int32), M0) else kb_rd (M0 8) 10 x1 (fun v2 => some (((v2 * (10 : Int32)) + x1), M0))))
set_option maxHeartbeats 4000000 in
set_option maxRecDepth 100000 in
theorem c_Y_turnOf (l : Launch) (D : va_G) (A : Nat → Nat) (G : Nat → ClassId) (x1 : Int32) (M0 : Nat → Nat → Int32) (r : Int32) (M' : Nat → Nat → Int32) (sz : Nat) (h : f_Y_turnOf x1 M0 = some (r, M')) : kb_Ci l y_Y_turnOf (Cond.code y_Y_turnOf b_Y_turnOf 2 (some .int) :: wsC) { frames := 0, cells := 0, slots := 0, locals := 0 } [.ref (A 1), .int x1] D kcl (tyC G) (wC A G M0) (wC A G M') nnC sz r := by
  refine Met.ofW (cc := b_Y_turnOf) (maxL := 2) (ret := (some .int)) (by decide) rfl ?_
  intro p e s m args below meth c s₁ B hml hv
  obtain ⟨rfl, hpre⟩ := hv
  obtain ⟨hw, hN⟩ := kb_enter hpre
  have hx := B.exec
  have hb := B.bytes
  have hr := B.returns
  have hts := atoms_spec (ws := (Cond.code y_Y_turnOf b_Y_turnOf 2 (some .int) :: wsC)) B.pre
  have htw : ∀ w ∈ wsC, w.before ([.ref (A 1), .int x1] : List Value).toArray s = true := fun w h => hts w (List.mem_cons_of_mem _ h)
  have hown : s.vm.findClass "PileLifts$Yard" = some m.cls := findClass_of_methodNamed B.named
  have hlocks := B.notSynchronized
  have hl := lv_entry ([.ref (A 1), .int x1]) (n := 2) (Nat.le_of_ble_eq_true rfl)
  rw [lg_entry_eq]
  generalize (lg_sl ([.ref (A 1), .int x1]) ++ List.replicate (2 - (lg_sl ([.ref (A 1), .int x1])).length) Slot.unset).toArray = ls at hl ⊢
  have hl : lv_has ls 2 [(0, .ref (A 1)), (1, .int x1)] := hl
  rw [f_Y_turnOf] at h
  refine lv_aload_n hx hb d_Y_turnOf_0 rfl (lv_at hl 0 rfl) ?_
  refine kb_get (own := "PileLifts$Yard") (ref := "PileLifts$Yard") (C := R_Y) (T := F_Y) (N := 10) hx hb htw i_Y hown hw 1 (wC_1 A G _) rfl 7 (by decide) (htw _ mC_23) rfl rfl d_Y_turnOf_1 ?_
  refine lv_iload_n hx hb d_Y_turnOf_4 rfl (lv_at hl 1 rfl) ?_
  obtain ⟨v1, ev1, hi, h⟩ := kb_rd_some h
  refine kb_ald hx hb hw 8 4 rfl rfl hi ev1 d_Y_turnOf_5 ?_
  refine lv_iconst (v := -1) hx hb d_Y_turnOf_6 (by decide) ?_
  refine lv_icmp_ne (tgt := 16) hx hb d_Y_turnOf_7 (by decide) (fun c => ?_) (fun c => ?_)
  · have h := kb_in c h
    refine lv_aload_n hx hb d_Y_turnOf_16 rfl (lv_at hl 0 rfl) ?_
    refine kb_get (own := "PileLifts$Yard") (ref := "PileLifts$Yard") (C := R_Y) (T := F_Y) (N := 10) hx hb htw i_Y hown hw 1 (wC_1 A G _) rfl 7 (by decide) (htw _ mC_23) rfl rfl d_Y_turnOf_17 ?_
    refine lv_iload_n hx hb d_Y_turnOf_20 rfl (lv_at hl 1 rfl) ?_
    obtain ⟨v2, ev2, hi, h⟩ := kb_rd_some h
    refine kb_ald hx hb hw 8 4 rfl rfl hi ev2 d_Y_turnOf_21 ?_
    refine lv_bipush (v := 10) hx hb d_Y_turnOf_22 (by decide) ?_
    refine lv_imul hx hb d_Y_turnOf_24 ?_
    refine lv_iload_n hx hb d_Y_turnOf_25 rfl (lv_at hl 1 rfl) ?_
    refine lv_iadd hx hb d_Y_turnOf_26 ?_
    obtain ⟨rfl, rfl⟩ := kb_rt h
    exact kb_iret hx hb hr hw hlocks d_Y_turnOf_27
  · have h := kb_ip c h
    refine lv_sipush (v := 1000) hx hb d_Y_turnOf_10 (by decide) ?_
    refine lv_goto (tgt := 27) hx hb d_Y_turnOf_13 (by decide) ?_
    obtain ⟨rfl, rfl⟩ := kb_rt h
    exact kb_iret hx hb hr hw hlocks d_Y_turnOf_27
def h_Y_wouldBlock_10 : Nat → Int32 → Int32 → Int32 → Int32 → (Nat → Nat → Int32) → Option (Int32 × (Nat → Nat → Int32))
  | 0, _, _, _, _, _ => none
  | n + 1, u2, u3, u4, u5, M => (if u3 ≤ u5 then some ((0 : Int32), M) else kb_cl (f_Y_pieceAt u2 u5 M) (fun r3 M4 => kb_cl (f_Y_turnOf r3 M4) (fun r5 M6 => (if u4 ≤ r5 then h_Y_wouldBlock_10 n u2 u3 u4 (u5 + 1) M6 else some ((1 : Int32), M6)))))
def f_Y_wouldBlock (x1 x2 x3 : Int32) (M0 : Nat → Nat → Int32) : Option (Int32 × (Nat → Nat → Int32)) := kb_cl (f_Y_turnOf x1 M0) (fun r1 M2 => h_Y_wouldBlock_10 kb_F x2 x3 r1 (0 : Int32) M2)
set_option maxHeartbeats 4000000 in
set_option maxRecDepth 100000 in
theorem c_Y_wouldBlock (l : Launch) (D : va_G) (A : Nat → Nat) (G : Nat → ClassId) (x1 x2 x3 : Int32) (M0 : Nat → Nat → Int32) (r : Int32) (M' : Nat → Nat → Int32) (sz : Nat) (h : f_Y_wouldBlock x1 x2 x3 M0 = some (r, M')) : kb_Ci l y_Y_wouldBlock (Cond.code y_Y_wouldBlock b_Y_wouldBlock 6 (some .boolean) :: wsC) { frames := 1, cells := 0, slots := 0, locals := 22 } [.ref (A 1), .int x1, .int x2, .int x3] D kcl (tyC G) (wC A G M0) (wC A G M') nnC sz r := by
  refine Met.ofW (cc := b_Y_wouldBlock) (maxL := 6) (ret := (some .boolean)) (by decide) rfl ?_
  intro p e s m args below meth c s₁ B hml hv
  obtain ⟨rfl, hpre⟩ := hv
  obtain ⟨hw, hN⟩ := kb_enter hpre
  have hx := B.exec
  have hb := B.bytes
  have hr := B.returns
  have hts := atoms_spec (ws := (Cond.code y_Y_wouldBlock b_Y_wouldBlock 6 (some .boolean) :: wsC)) B.pre
  have htw : ∀ w ∈ wsC, w.before ([.ref (A 1), .int x1, .int x2, .int x3] : List Value).toArray s = true := fun w h => hts w (List.mem_cons_of_mem _ h)
  have hown : s.vm.findClass "PileLifts$Yard" = some m.cls := findClass_of_methodNamed B.named
  have hlocks := B.notSynchronized
  have loop_10 : ∀ (n10 : Nat) (u2 u3 u4 u5 : Int32) (M : Nat → Nat → Int32) (H : Heap) (locs : List Loc) (ls : Array Slot), h_Y_wouldBlock_10 n10 u2 u3 u4 u5 M = some (r, M') → kb_K D kcl (tyC G) (wC A G M) s (va_A (wC A G M0) sz) H locs → lv_has ls 6 [(0, .ref (A 1)), (2, .int u2), (3, .int u3), (4, .int u4), (5, .int u5)] → W p l e (headSpec (Cond.code y_Y_wouldBlock b_Y_wouldBlock 6 (some .boolean) :: wsC) { frames := 1, cells := 0, slots := 0, locals := 22 }).room s m ([.ref (A 1), .int x1, .int x2, .int x3] : List Value).toArray below meth c H locs 0 0 (kb_Qi D kcl (tyC G) (wC A G M0) (wC A G M') sz r below ([.ref (A 1), .int x1, .int x2, .int x3] : List Value).toArray s) (F0 m 10 ls []) := by
    intro n10
    induction n10 with
    | zero =>
      intro u2 u3 u4 u5 M H locs ls h
      cases h
    | succ n10 ih =>
      intro u2 u3 u4 u5 M H locs ls h hw hl
      rw [h_Y_wouldBlock_10] at h
      refine lv_iload hx hb d_Y_wouldBlock_10 (lv_at hl 4 rfl) ?_
      refine lv_iload_n hx hb d_Y_wouldBlock_12 rfl (lv_at hl 2 rfl) ?_
      refine lv_icmp_ge (tgt := 40) hx hb d_Y_wouldBlock_13 (by decide) (fun c => ?_) (fun c => ?_)
      · have h := kb_ip c h
        refine lv_iconst (v := 0) hx hb d_Y_wouldBlock_40 (by decide) ?_
        obtain ⟨rfl, rfl⟩ := kb_rt h
        exact kb_zret hx hb hr hw hlocks (Or.inl rfl) d_Y_wouldBlock_41
      · have h := kb_in c h
        refine lv_aload_n hx hb d_Y_wouldBlock_16 rfl (lv_at hl 0 rfl) ?_
        refine lv_aload_n hx hb d_Y_wouldBlock_17 rfl (lv_at hl 0 rfl) ?_
        refine lv_iload_n hx hb d_Y_wouldBlock_18 rfl (lv_at hl 1 rfl) ?_
        refine lv_iload hx hb d_Y_wouldBlock_19 (lv_at hl 4 rfl) ?_
        obtain ⟨r3, M4, hc, h⟩ := kb_cl_some h
        refine kb_calli0 (va_runV (As := [.int u2, .int u5]) (rest := [.ref (A 1)]) ⟨hx, hb, hml, hown, htw⟩ (c_Y_pieceAt l D A G u2 u5 M _ _ H.size hc) ⟨(callB_of 2 htw (wsC_self mC_102) rfl rfl rfl (htw _ mC_1) (htw _ mC_100) q_Y_pieceAt ⟨by show 0 + 1 ≤ 1; omega, by show 8 + (3 + 11) + 0 ≤ 22; omega⟩), htw _ mC_101, htw _ mC_236⟩ (kb_preV nnC_warm nnC_same hw hN 1 (wC_1 A G _) rfl) rfl rfl hl.1 rfl (lv_room (Nat.le_of_ble_eq_true rfl)) d_Y_wouldBlock_21 ⟨Nat.zero_le _, Nat.zero_le _⟩) hw (fun H locs hw => ?_)
        obtain ⟨r5, M6, hc, h⟩ := kb_cl_some h
        refine kb_calli0 (va_runV (As := [.int r3]) (rest := []) ⟨hx, hb, hml, hown, htw⟩ (c_Y_turnOf l D A G r3 M4 _ _ H.size hc) ⟨(callB_of 1 htw (wsC_self mC_99) rfl rfl rfl (htw _ mC_1) (htw _ mC_97) q_Y_turnOf ⟨by show 0 + 1 ≤ 1; omega, by show 8 + (2 + 11) + 0 ≤ 22; omega⟩), htw _ mC_98, htw _ mC_235⟩ (kb_preV nnC_warm nnC_same hw hN 1 (wC_1 A G _) rfl) rfl rfl hl.1 rfl (lv_room (Nat.le_of_ble_eq_true rfl)) d_Y_wouldBlock_24 ⟨Nat.zero_le _, Nat.zero_le _⟩) hw (fun H locs hw => ?_)
        refine lv_iload hx hb d_Y_wouldBlock_27 (lv_at hl 3 rfl) ?_
        refine lv_icmp_ge (tgt := 34) hx hb d_Y_wouldBlock_29 (by decide) (fun c => ?_) (fun c => ?_)
        · have h := kb_ip c h
          refine lv_iinc (v := (u5 + 1)) (lv' := [(5, .int (u5 + 1)), (0, .ref (A 1)), (2, .int u2), (3, .int u3), (4, .int u4)]) hx hb d_Y_wouldBlock_34 hl (k := 4) rfl rfl (by decide) rfl (fun ls hl => ?_)
          refine lv_goto (tgt := 10) hx hb d_Y_wouldBlock_37 (by decide) ?_
          exact ih u2 u3 u4 (u5 + 1) M6 _ _ _ h hw (lv_sub hl [1, 2, 3, 4, 0] rfl)
        · have h := kb_in c h
          refine lv_iconst (v := 1) hx hb d_Y_wouldBlock_32 (by decide) ?_
          obtain ⟨rfl, rfl⟩ := kb_rt h
          exact kb_zret hx hb hr hw hlocks (Or.inr rfl) d_Y_wouldBlock_33
  have hl := lv_entry ([.ref (A 1), .int x1, .int x2, .int x3]) (n := 6) (Nat.le_of_ble_eq_true rfl)
  rw [lg_entry_eq]
  generalize (lg_sl ([.ref (A 1), .int x1, .int x2, .int x3]) ++ List.replicate (6 - (lg_sl ([.ref (A 1), .int x1, .int x2, .int x3])).length) Slot.unset).toArray = ls at hl ⊢
  have hl : lv_has ls 6 [(0, .ref (A 1)), (1, .int x1), (2, .int x2), (3, .int x3)] := hl
  rw [f_Y_wouldBlock] at h
  refine lv_aload_n hx hb d_Y_wouldBlock_0 rfl (lv_at hl 0 rfl) ?_
  refine lv_iload_n hx hb d_Y_wouldBlock_1 rfl (lv_at hl 1 rfl) ?_
  obtain ⟨r1, M2, hc, h⟩ := kb_cl_some h
  refine kb_calli0 (va_runV (As := [.int x1]) (rest := []) ⟨hx, hb, hml, hown, htw⟩ (c_Y_turnOf l D A G x1 M0 _ _ s.heap.size hc) ⟨(callB_of 1 htw (wsC_self mC_99) rfl rfl rfl (htw _ mC_1) (htw _ mC_97) q_Y_turnOf ⟨by show 0 + 1 ≤ 1; omega, by show 8 + (2 + 11) + 0 ≤ 22; omega⟩), htw _ mC_98, htw _ mC_235⟩ (kb_preV nnC_warm nnC_same hw hN 1 (wC_1 A G _) rfl) rfl rfl hl.1 rfl (lv_room (Nat.le_of_ble_eq_true rfl)) d_Y_wouldBlock_2 ⟨Nat.zero_le _, Nat.zero_le _⟩) hw (fun H locs hw => ?_)
  refine lv_istore (lv' := [(4, .int r1), (0, .ref (A 1)), (1, .int x1), (2, .int x2), (3, .int x3)]) hx hb d_Y_wouldBlock_5 hl (by decide) rfl (fun ls hl => ?_)
  refine lv_iconst (v := 0) hx hb d_Y_wouldBlock_7 (by decide) ?_
  refine lv_istore (lv' := [(5, .int (0 : Int32)), (4, .int r1), (0, .ref (A 1)), (1, .int x1), (2, .int x2), (3, .int x3)]) hx hb d_Y_wouldBlock_8 hl (by decide) rfl (fun ls hl => ?_)
  exact loop_10 kb_F x2 x3 r1 (0 : Int32) M2 _ _ _ h hw (lv_sub hl [2, 4, 5, 1, 0] rfl)
def f_Y_isBlocking (x1 : Int32) (M0 : Nat → Nat → Int32) : Option (Int32 × (Nat → Nat → Int32)) := kb_cl (f_Y_isGone x1 M0) (fun r1 M2 => (if r1 = (0 : Int32) then kb_rd (M2 9) 10 x1 (fun v3 => kb_rd (M2 10) 10 x1 (fun v4 => kb_cl (f_Y_wouldBlock x1 v3 v4 M2) (fun r5 M6 => (if r5 = (0 : Int32) then some ((0 : Int32), M6) else some ((1 : Int32), M6))))) else some ((0 : Int32), M2)))
set_option maxHeartbeats 4000000 in
set_option maxRecDepth 100000 in
theorem c_Y_isBlocking (l : Launch) (D : va_G) (A : Nat → Nat) (G : Nat → ClassId) (x1 : Int32) (M0 : Nat → Nat → Int32) (r : Int32) (M' : Nat → Nat → Int32) (sz : Nat) (h : f_Y_isBlocking x1 M0 = some (r, M')) : kb_Ci l y_Y_isBlocking (Cond.code y_Y_isBlocking b_Y_isBlocking 2 (some .boolean) :: wsC) { frames := 2, cells := 0, slots := 0, locals := 47 } [.ref (A 1), .int x1] D kcl (tyC G) (wC A G M0) (wC A G M') nnC sz r := by
  refine Met.ofW (cc := b_Y_isBlocking) (maxL := 2) (ret := (some .boolean)) (by decide) rfl ?_
  intro p e s m args below meth c s₁ B hml hv
  obtain ⟨rfl, hpre⟩ := hv
  obtain ⟨hw, hN⟩ := kb_enter hpre
  have hx := B.exec
  have hb := B.bytes
  have hr := B.returns
  have hts := atoms_spec (ws := (Cond.code y_Y_isBlocking b_Y_isBlocking 2 (some .boolean) :: wsC)) B.pre
  have htw : ∀ w ∈ wsC, w.before ([.ref (A 1), .int x1] : List Value).toArray s = true := fun w h => hts w (List.mem_cons_of_mem _ h)
  have hown : s.vm.findClass "PileLifts$Yard" = some m.cls := findClass_of_methodNamed B.named
  have hlocks := B.notSynchronized
  have hl := lv_entry ([.ref (A 1), .int x1]) (n := 2) (Nat.le_of_ble_eq_true rfl)
  rw [lg_entry_eq]
  generalize (lg_sl ([.ref (A 1), .int x1]) ++ List.replicate (2 - (lg_sl ([.ref (A 1), .int x1])).length) Slot.unset).toArray = ls at hl ⊢
  have hl : lv_has ls 2 [(0, .ref (A 1)), (1, .int x1)] := hl
  rw [f_Y_isBlocking] at h
  refine lv_aload_n hx hb d_Y_isBlocking_0 rfl (lv_at hl 0 rfl) ?_
  refine lv_iload_n hx hb d_Y_isBlocking_1 rfl (lv_at hl 1 rfl) ?_
  obtain ⟨r1, M2, hc, h⟩ := kb_cl_some h
  refine kb_calli0 (va_runV (As := [.int x1]) (rest := []) ⟨hx, hb, hml, hown, htw⟩ (c_Y_isGone l D A G x1 M0 _ _ s.heap.size hc) ⟨(callB_of 1 htw (wsC_self mC_93) rfl rfl rfl (htw _ mC_1) (htw _ mC_91) q_Y_isGone ⟨by show 0 + 1 ≤ 2; omega, by show 8 + (2 + 11) + 0 ≤ 47; omega⟩), htw _ mC_92, htw _ mC_233⟩ (kb_preV nnC_warm nnC_same hw hN 1 (wC_1 A G _) rfl) rfl rfl hl.1 rfl (lv_room (Nat.le_of_ble_eq_true rfl)) d_Y_isBlocking_2 ⟨Nat.zero_le _, Nat.zero_le _⟩) hw (fun H locs hw => ?_)
  refine lv_if_ne (tgt := 32) hx hb d_Y_isBlocking_5 (by decide) (fun c => ?_) (fun c => ?_)
  · have h := kb_in c h
    refine lv_iconst (v := 0) hx hb d_Y_isBlocking_32 (by decide) ?_
    obtain ⟨rfl, rfl⟩ := kb_rt h
    exact kb_zret hx hb hr hw hlocks (Or.inl rfl) d_Y_isBlocking_33
  · have h := kb_ip c h
    refine lv_aload_n hx hb d_Y_isBlocking_8 rfl (lv_at hl 0 rfl) ?_
    refine lv_iload_n hx hb d_Y_isBlocking_9 rfl (lv_at hl 1 rfl) ?_
    refine lv_aload_n hx hb d_Y_isBlocking_10 rfl (lv_at hl 0 rfl) ?_
    refine kb_get (own := "PileLifts$Yard") (ref := "PileLifts$Yard") (C := R_Y) (T := F_Y) (N := 10) hx hb htw i_Y hown hw 1 (wC_1 A G _) rfl 8 (by decide) (htw _ mC_24) rfl rfl d_Y_isBlocking_11 ?_
    refine lv_iload_n hx hb d_Y_isBlocking_14 rfl (lv_at hl 1 rfl) ?_
    obtain ⟨v3, ev3, hi, h⟩ := kb_rd_some h
    refine kb_ald hx hb hw 9 5 rfl rfl hi ev3 d_Y_isBlocking_15 ?_
    refine lv_aload_n hx hb d_Y_isBlocking_16 rfl (lv_at hl 0 rfl) ?_
    refine kb_get (own := "PileLifts$Yard") (ref := "PileLifts$Yard") (C := R_Y) (T := F_Y) (N := 10) hx hb htw i_Y hown hw 1 (wC_1 A G _) rfl 9 (by decide) (htw _ mC_25) rfl rfl d_Y_isBlocking_17 ?_
    refine lv_iload_n hx hb d_Y_isBlocking_20 rfl (lv_at hl 1 rfl) ?_
    obtain ⟨v4, ev4, hi, h⟩ := kb_rd_some h
    refine kb_ald hx hb hw 10 6 rfl rfl hi ev4 d_Y_isBlocking_21 ?_
    obtain ⟨r5, M6, hc, h⟩ := kb_cl_some h
    refine kb_calli0 (va_runV (As := [.int x1, .int v3, .int v4]) (rest := []) ⟨hx, hb, hml, hown, htw⟩ (c_Y_wouldBlock l D A G x1 v3 v4 M2 _ _ H.size hc) ⟨(callB_of 3 htw (wsC_self mC_96) rfl rfl rfl (htw _ mC_1) (htw _ mC_94) q_Y_wouldBlock ⟨by show 1 + 1 ≤ 2; omega, by show 8 + (6 + 11) + 22 ≤ 47; omega⟩), htw _ mC_95, htw _ mC_234⟩ (kb_preV nnC_warm nnC_same hw hN 1 (wC_1 A G _) rfl) rfl rfl hl.1 rfl (lv_room (Nat.le_of_ble_eq_true rfl)) d_Y_isBlocking_22 ⟨Nat.zero_le _, Nat.zero_le _⟩) hw (fun H locs hw => ?_)
    refine lv_if_eq (tgt := 32) hx hb d_Y_isBlocking_25 (by decide) (fun c => ?_) (fun c => ?_)
    · have h := kb_ip c h
      refine lv_iconst (v := 0) hx hb d_Y_isBlocking_32 (by decide) ?_
      obtain ⟨rfl, rfl⟩ := kb_rt h
      exact kb_zret hx hb hr hw hlocks (Or.inl rfl) d_Y_isBlocking_33
    · have h := kb_in c h
      refine lv_iconst (v := 1) hx hb d_Y_isBlocking_28 (by decide) ?_
      refine lv_goto (tgt := 33) hx hb d_Y_isBlocking_29 (by decide) ?_
      obtain ⟨rfl, rfl⟩ := kb_rt h
      exact kb_zret hx hb hr hw hlocks (Or.inr rfl) d_Y_isBlocking_33
def h_Y_countBlocking_4 : Nat → Int32 → Int32 → (Nat → Nat → Int32) → Option (Int32 × (Nat → Nat → Int32))
  | 0, _, _, _ => none
  | n + 1, u1, u2, M => (if (M 1 2) ≤ u2 then some (u1, M) else kb_cl (f_Y_isBlocking u2 M) (fun r1 M2 => (if r1 = (0 : Int32) then h_Y_countBlocking_4 n u1 (u2 + 1) M2 else h_Y_countBlocking_4 n (u1 + 1) (u2 + 1) M2)))
def f_Y_countBlocking (M0 : Nat → Nat → Int32) : Option (Int32 × (Nat → Nat → Int32)) := h_Y_countBlocking_4 kb_F (0 : Int32) (0 : Int32) M0
set_option maxHeartbeats 4000000 in
set_option maxRecDepth 100000 in
theorem c_Y_countBlocking (l : Launch) (D : va_G) (A : Nat → Nat) (G : Nat → ClassId) (M0 : Nat → Nat → Int32) (r : Int32) (M' : Nat → Nat → Int32) (sz : Nat) (h : f_Y_countBlocking M0 = some (r, M')) : kb_Ci l y_Y_countBlocking (Cond.code y_Y_countBlocking b_Y_countBlocking 3 (some .int) :: wsC) { frames := 3, cells := 0, slots := 0, locals := 68 } [.ref (A 1)] D kcl (tyC G) (wC A G M0) (wC A G M') nnC sz r := by
  refine Met.ofW (cc := b_Y_countBlocking) (maxL := 3) (ret := (some .int)) (by decide) rfl ?_
  intro p e s m args below meth c s₁ B hml hv
  obtain ⟨rfl, hpre⟩ := hv
  obtain ⟨hw, hN⟩ := kb_enter hpre
  have hx := B.exec
  have hb := B.bytes
  have hr := B.returns
  have hts := atoms_spec (ws := (Cond.code y_Y_countBlocking b_Y_countBlocking 3 (some .int) :: wsC)) B.pre
  have htw : ∀ w ∈ wsC, w.before ([.ref (A 1)] : List Value).toArray s = true := fun w h => hts w (List.mem_cons_of_mem _ h)
  have hown : s.vm.findClass "PileLifts$Yard" = some m.cls := findClass_of_methodNamed B.named
  have hlocks := B.notSynchronized
  have loop_4 : ∀ (n4 : Nat) (u1 u2 : Int32) (M : Nat → Nat → Int32) (H : Heap) (locs : List Loc) (ls : Array Slot), h_Y_countBlocking_4 n4 u1 u2 M = some (r, M') → kb_K D kcl (tyC G) (wC A G M) s (va_A (wC A G M0) sz) H locs → lv_has ls 3 [(0, .ref (A 1)), (1, .int u1), (2, .int u2)] → W p l e (headSpec (Cond.code y_Y_countBlocking b_Y_countBlocking 3 (some .int) :: wsC) { frames := 3, cells := 0, slots := 0, locals := 68 }).room s m ([.ref (A 1)] : List Value).toArray below meth c H locs 0 0 (kb_Qi D kcl (tyC G) (wC A G M0) (wC A G M') sz r below ([.ref (A 1)] : List Value).toArray s) (F0 m 4 ls []) := by
    intro n4
    induction n4 with
    | zero =>
      intro u1 u2 M H locs ls h
      cases h
    | succ n4 ih =>
      intro u1 u2 M H locs ls h hw hl
      rw [h_Y_countBlocking_4] at h
      refine lv_iload_n hx hb d_Y_countBlocking_4 rfl (lv_at hl 2 rfl) ?_
      refine lv_aload_n hx hb d_Y_countBlocking_5 rfl (lv_at hl 0 rfl) ?_
      refine kb_get (own := "PileLifts$Yard") (ref := "PileLifts$Yard") (C := R_Y) (T := F_Y) (N := 10) hx hb htw i_Y hown hw 1 (wC_1 A G _) rfl 2 (by decide) (htw _ mC_18) rfl rfl d_Y_countBlocking_6 ?_
      refine lv_icmp_ge (tgt := 29) hx hb d_Y_countBlocking_9 (by decide) (fun c => ?_) (fun c => ?_)
      · have h := kb_ip c h
        refine lv_iload_n hx hb d_Y_countBlocking_29 rfl (lv_at hl 1 rfl) ?_
        obtain ⟨rfl, rfl⟩ := kb_rt h
        exact kb_iret hx hb hr hw hlocks d_Y_countBlocking_30
      · have h := kb_in c h
        refine lv_aload_n hx hb d_Y_countBlocking_12 rfl (lv_at hl 0 rfl) ?_
        refine lv_iload_n hx hb d_Y_countBlocking_13 rfl (lv_at hl 2 rfl) ?_
        obtain ⟨r1, M2, hc, h⟩ := kb_cl_some h
        refine kb_calli0 (va_runV (As := [.int u2]) (rest := []) ⟨hx, hb, hml, hown, htw⟩ (c_Y_isBlocking l D A G u2 M _ _ H.size hc) ⟨(callB_of 1 htw (wsC_self mC_90) rfl rfl rfl (htw _ mC_1) (htw _ mC_88) q_Y_isBlocking ⟨by show 2 + 1 ≤ 3; omega, by show 8 + (2 + 11) + 47 ≤ 68; omega⟩), htw _ mC_89, htw _ mC_232⟩ (kb_preV nnC_warm nnC_same hw hN 1 (wC_1 A G _) rfl) rfl rfl hl.1 rfl (lv_room (Nat.le_of_ble_eq_true rfl)) d_Y_countBlocking_14 ⟨Nat.zero_le _, Nat.zero_le _⟩) hw (fun H locs hw => ?_)
        refine lv_if_eq (tgt := 23) hx hb d_Y_countBlocking_17 (by decide) (fun c => ?_) (fun c => ?_)
        · have h := kb_ip c h
          refine lv_iinc (v := (u2 + 1)) (lv' := [(2, .int (u2 + 1)), (0, .ref (A 1)), (1, .int u1)]) hx hb d_Y_countBlocking_23 hl (k := 2) rfl rfl (by decide) rfl (fun ls hl => ?_)
          refine lv_goto (tgt := 4) hx hb d_Y_countBlocking_26 (by decide) ?_
          exact ih u1 (u2 + 1) M2 _ _ _ h hw (lv_sub hl [1, 2, 0] rfl)
        · have h := kb_in c h
          refine lv_iinc (v := (u1 + 1)) (lv' := [(1, .int (u1 + 1)), (0, .ref (A 1)), (2, .int u2)]) hx hb d_Y_countBlocking_20 hl (k := 1) rfl rfl (by decide) rfl (fun ls hl => ?_)
          refine lv_iinc (v := (u2 + 1)) (lv' := [(2, .int (u2 + 1)), (1, .int (u1 + 1)), (0, .ref (A 1))]) hx hb d_Y_countBlocking_23 hl (k := 2) rfl rfl (by decide) rfl (fun ls hl => ?_)
          refine lv_goto (tgt := 4) hx hb d_Y_countBlocking_26 (by decide) ?_
          exact ih (u1 + 1) (u2 + 1) M2 _ _ _ h hw (lv_sub hl [2, 1, 0] rfl)
  have hl := lv_entry ([.ref (A 1)]) (n := 3) (Nat.le_of_ble_eq_true rfl)
  rw [lg_entry_eq]
  generalize (lg_sl ([.ref (A 1)]) ++ List.replicate (3 - (lg_sl ([.ref (A 1)])).length) Slot.unset).toArray = ls at hl ⊢
  have hl : lv_has ls 3 [(0, .ref (A 1))] := hl
  rw [f_Y_countBlocking] at h
  refine lv_iconst (v := 0) hx hb d_Y_countBlocking_0 (by decide) ?_
  refine lv_istore_n (lv' := [(1, .int (0 : Int32)), (0, .ref (A 1))]) hx hb d_Y_countBlocking_1 rfl hl (by decide) rfl (fun ls hl => ?_)
  refine lv_iconst (v := 0) hx hb d_Y_countBlocking_2 (by decide) ?_
  refine lv_istore_n (lv' := [(2, .int (0 : Int32)), (1, .int (0 : Int32)), (0, .ref (A 1))]) hx hb d_Y_countBlocking_3 rfl hl (by decide) rfl (fun ls hl => ?_)
  exact loop_4 kb_F (0 : Int32) (0 : Int32) M0 _ _ _ h hw (lv_sub hl [2, 1, 0] rfl)
def f_P_bound (M0 : Nat → Nat → Int32) : Option (Int32 × (Nat → Nat → Int32)) := kb_cl (f_Y_countBlocking M0) (fun r1 M2 => some (r1, M2))
set_option maxHeartbeats 4000000 in
set_option maxRecDepth 100000 in
theorem c_P_bound (l : Launch) (D : va_G) (A : Nat → Nat) (G : Nat → ClassId) (M0 : Nat → Nat → Int32) (r : Int32) (M' : Nat → Nat → Int32) (sz : Nat) (h : f_P_bound M0 = some (r, M')) : kb_Ci l y_P_bound (Cond.code y_P_bound b_P_bound 1 (some .int) :: wsC) { frames := 4, cells := 0, slots := 0, locals := 90 } [.ref (A 0)] D kcl (tyC G) (wC A G M0) (wC A G M') nnC sz r := by
  refine Met.ofW (cc := b_P_bound) (maxL := 1) (ret := (some .int)) (by decide) rfl ?_
  intro p e s m args below meth c s₁ B hml hv
  obtain ⟨rfl, hpre⟩ := hv
  obtain ⟨hw, hN⟩ := kb_enter hpre
  have hx := B.exec
  have hb := B.bytes
  have hr := B.returns
  have hts := atoms_spec (ws := (Cond.code y_P_bound b_P_bound 1 (some .int) :: wsC)) B.pre
  have htw : ∀ w ∈ wsC, w.before ([.ref (A 0)] : List Value).toArray s = true := fun w h => hts w (List.mem_cons_of_mem _ h)
  have hown : s.vm.findClass "PileLifts" = some m.cls := findClass_of_methodNamed B.named
  have hlocks := B.notSynchronized
  have hl := lv_entry ([.ref (A 0)]) (n := 1) (Nat.le_of_ble_eq_true rfl)
  rw [lg_entry_eq]
  generalize (lg_sl ([.ref (A 0)]) ++ List.replicate (1 - (lg_sl ([.ref (A 0)])).length) Slot.unset).toArray = ls at hl ⊢
  have hl : lv_has ls 1 [(0, .ref (A 0))] := hl
  rw [f_P_bound] at h
  refine lv_aload_n hx hb d_P_bound_0 rfl (lv_at hl 0 rfl) ?_
  refine kb_get (own := "PileLifts") (ref := "PileLifts") (C := R_P) (T := F_P) (N := 3) hx hb htw i_P hown hw 0 (wC_0 A G _) rfl 0 (by decide) (htw _ mC_77) rfl rfl d_P_bound_1 ?_
  obtain ⟨r1, M2, hc, h⟩ := kb_cl_some h
  refine kb_calli0 (va_runVN (As := []) (rest := []) ⟨hx, hb, hml, hown, htw⟩ (c_Y_countBlocking l D A G M0 _ _ s.heap.size hc) ⟨(va_cnB 0 htw (wsC_self mC_87) rfl rfl rfl (nm_P_99 hN) (htw _ mC_1) q_Y_countBlocking ⟨by show 3 + 1 ≤ 4; omega, by show 8 + (3 + 11) + 68 ≤ 90; omega⟩), htw _ mC_86, htw _ mC_231⟩ (kb_preV nnC_warm nnC_same hw hN 1 (wC_1 A G _) rfl) rfl rfl hl.1 rfl (lv_room (Nat.le_of_ble_eq_true rfl)) d_P_bound_4 ⟨Nat.zero_le _, Nat.zero_le _⟩) hw (fun H locs hw => ?_)
  obtain ⟨rfl, rfl⟩ := kb_rt h
  exact kb_iret hx hb hr hw hlocks d_P_bound_7
def h_Y_nextWanted_8 : Nat → Int32 → Int32 → Int32 → (Nat → Nat → Int32) → Option (Int32 × (Nat → Nat → Int32))
  | 0, _, _, _, _ => none
  | n + 1, u1, u2, u3, M => (if (M 1 2) ≤ u3 then some (u1, M) else kb_cl (f_Y_isGone u3 M) (fun r1 M2 => (if r1 = (0 : Int32) then kb_cl (f_Y_turnOf u3 M2) (fun r3 M4 => (if u2 ≤ r3 then h_Y_nextWanted_8 n u1 u2 (u3 + 1) M4 else kb_cl (f_Y_turnOf u3 M4) (fun r5 M6 => h_Y_nextWanted_8 n u3 r5 (u3 + 1) M6))) else h_Y_nextWanted_8 n u1 u2 (u3 + 1) M2)))
def f_Y_nextWanted (M0 : Nat → Nat → Int32) : Option (Int32 × (Nat → Nat → Int32)) := h_Y_nextWanted_8 kb_F (-1 : Int32) (1000 : Int32) (0 : Int32) M0
set_option maxHeartbeats 4000000 in
set_option maxRecDepth 100000 in
theorem c_Y_nextWanted (l : Launch) (D : va_G) (A : Nat → Nat) (G : Nat → ClassId) (M0 : Nat → Nat → Int32) (r : Int32) (M' : Nat → Nat → Int32) (sz : Nat) (h : f_Y_nextWanted M0 = some (r, M')) : kb_Ci l y_Y_nextWanted (Cond.code y_Y_nextWanted b_Y_nextWanted 4 (some .int) :: wsC) { frames := 1, cells := 0, slots := 0, locals := 21 } [.ref (A 1)] D kcl (tyC G) (wC A G M0) (wC A G M') nnC sz r := by
  refine Met.ofW (cc := b_Y_nextWanted) (maxL := 4) (ret := (some .int)) (by decide) rfl ?_
  intro p e s m args below meth c s₁ B hml hv
  obtain ⟨rfl, hpre⟩ := hv
  obtain ⟨hw, hN⟩ := kb_enter hpre
  have hx := B.exec
  have hb := B.bytes
  have hr := B.returns
  have hts := atoms_spec (ws := (Cond.code y_Y_nextWanted b_Y_nextWanted 4 (some .int) :: wsC)) B.pre
  have htw : ∀ w ∈ wsC, w.before ([.ref (A 1)] : List Value).toArray s = true := fun w h => hts w (List.mem_cons_of_mem _ h)
  have hown : s.vm.findClass "PileLifts$Yard" = some m.cls := findClass_of_methodNamed B.named
  have hlocks := B.notSynchronized
  have loop_8 : ∀ (n8 : Nat) (u1 u2 u3 : Int32) (M : Nat → Nat → Int32) (H : Heap) (locs : List Loc) (ls : Array Slot), h_Y_nextWanted_8 n8 u1 u2 u3 M = some (r, M') → kb_K D kcl (tyC G) (wC A G M) s (va_A (wC A G M0) sz) H locs → lv_has ls 4 [(0, .ref (A 1)), (1, .int u1), (2, .int u2), (3, .int u3)] → W p l e (headSpec (Cond.code y_Y_nextWanted b_Y_nextWanted 4 (some .int) :: wsC) { frames := 1, cells := 0, slots := 0, locals := 21 }).room s m ([.ref (A 1)] : List Value).toArray below meth c H locs 0 0 (kb_Qi D kcl (tyC G) (wC A G M0) (wC A G M') sz r below ([.ref (A 1)] : List Value).toArray s) (F0 m 8 ls []) := by
    intro n8
    induction n8 with
    | zero =>
      intro u1 u2 u3 M H locs ls h
      cases h
    | succ n8 ih =>
      intro u1 u2 u3 M H locs ls h hw hl
      rw [h_Y_nextWanted_8] at h
      refine lv_iload_n hx hb d_Y_nextWanted_8 rfl (lv_at hl 3 rfl) ?_
      refine lv_aload_n hx hb d_Y_nextWanted_9 rfl (lv_at hl 0 rfl) ?_
      refine kb_get (own := "PileLifts$Yard") (ref := "PileLifts$Yard") (C := R_Y) (T := F_Y) (N := 10) hx hb htw i_Y hown hw 1 (wC_1 A G _) rfl 2 (by decide) (htw _ mC_18) rfl rfl d_Y_nextWanted_10 ?_
      refine lv_icmp_ge (tgt := 47) hx hb d_Y_nextWanted_13 (by decide) (fun c => ?_) (fun c => ?_)
      · have h := kb_ip c h
        refine lv_iload_n hx hb d_Y_nextWanted_47 rfl (lv_at hl 1 rfl) ?_
        obtain ⟨rfl, rfl⟩ := kb_rt h
        exact kb_iret hx hb hr hw hlocks d_Y_nextWanted_48
      · have h := kb_in c h
        refine lv_aload_n hx hb d_Y_nextWanted_16 rfl (lv_at hl 0 rfl) ?_
        refine lv_iload_n hx hb d_Y_nextWanted_17 rfl (lv_at hl 3 rfl) ?_
        obtain ⟨r1, M2, hc, h⟩ := kb_cl_some h
        refine kb_calli0 (va_runV (As := [.int u3]) (rest := []) ⟨hx, hb, hml, hown, htw⟩ (c_Y_isGone l D A G u3 M _ _ H.size hc) ⟨(callB_of 1 htw (wsC_self mC_93) rfl rfl rfl (htw _ mC_1) (htw _ mC_91) q_Y_isGone ⟨by show 0 + 1 ≤ 1; omega, by show 8 + (2 + 11) + 0 ≤ 21; omega⟩), htw _ mC_92, htw _ mC_233⟩ (kb_preV nnC_warm nnC_same hw hN 1 (wC_1 A G _) rfl) rfl rfl hl.1 rfl (lv_room (Nat.le_of_ble_eq_true rfl)) d_Y_nextWanted_18 ⟨Nat.zero_le _, Nat.zero_le _⟩) hw (fun H locs hw => ?_)
        refine lv_if_ne (tgt := 41) hx hb d_Y_nextWanted_21 (by decide) (fun c => ?_) (fun c => ?_)
        · have h := kb_in c h
          refine lv_iinc (v := (u3 + 1)) (lv' := [(3, .int (u3 + 1)), (0, .ref (A 1)), (1, .int u1), (2, .int u2)]) hx hb d_Y_nextWanted_41 hl (k := 3) rfl rfl (by decide) rfl (fun ls hl => ?_)
          refine lv_goto (tgt := 8) hx hb d_Y_nextWanted_44 (by decide) ?_
          exact ih u1 u2 (u3 + 1) M2 _ _ _ h hw (lv_sub hl [1, 2, 3, 0] rfl)
        · have h := kb_ip c h
          refine lv_aload_n hx hb d_Y_nextWanted_24 rfl (lv_at hl 0 rfl) ?_
          refine lv_iload_n hx hb d_Y_nextWanted_25 rfl (lv_at hl 3 rfl) ?_
          obtain ⟨r3, M4, hc, h⟩ := kb_cl_some h
          refine kb_calli0 (va_runV (As := [.int u3]) (rest := []) ⟨hx, hb, hml, hown, htw⟩ (c_Y_turnOf l D A G u3 M2 _ _ H.size hc) ⟨(callB_of 1 htw (wsC_self mC_99) rfl rfl rfl (htw _ mC_1) (htw _ mC_97) q_Y_turnOf ⟨by show 0 + 1 ≤ 1; omega, by show 8 + (2 + 11) + 0 ≤ 21; omega⟩), htw _ mC_98, htw _ mC_235⟩ (kb_preV nnC_warm nnC_same hw hN 1 (wC_1 A G _) rfl) rfl rfl hl.1 rfl (lv_room (Nat.le_of_ble_eq_true rfl)) d_Y_nextWanted_26 ⟨Nat.zero_le _, Nat.zero_le _⟩) hw (fun H locs hw => ?_)
          refine lv_iload_n hx hb d_Y_nextWanted_29 rfl (lv_at hl 2 rfl) ?_
          refine lv_icmp_ge (tgt := 41) hx hb d_Y_nextWanted_30 (by decide) (fun c => ?_) (fun c => ?_)
          · have h := kb_ip c h
            refine lv_iinc (v := (u3 + 1)) (lv' := [(3, .int (u3 + 1)), (0, .ref (A 1)), (1, .int u1), (2, .int u2)]) hx hb d_Y_nextWanted_41 hl (k := 3) rfl rfl (by decide) rfl (fun ls hl => ?_)
            refine lv_goto (tgt := 8) hx hb d_Y_nextWanted_44 (by decide) ?_
            exact ih u1 u2 (u3 + 1) M4 _ _ _ h hw (lv_sub hl [1, 2, 3, 0] rfl)
          · have h := kb_in c h
            refine lv_iload_n hx hb d_Y_nextWanted_33 rfl (lv_at hl 3 rfl) ?_
            refine lv_istore_n (lv' := [(1, .int u3), (0, .ref (A 1)), (2, .int u2), (3, .int u3)]) hx hb d_Y_nextWanted_34 rfl hl (by decide) rfl (fun ls hl => ?_)
            refine lv_aload_n hx hb d_Y_nextWanted_35 rfl (lv_at hl 1 rfl) ?_
            refine lv_iload_n hx hb d_Y_nextWanted_36 rfl (lv_at hl 3 rfl) ?_
            obtain ⟨r5, M6, hc, h⟩ := kb_cl_some h
            refine kb_calli0 (va_runV (As := [.int u3]) (rest := []) ⟨hx, hb, hml, hown, htw⟩ (c_Y_turnOf l D A G u3 M4 _ _ H.size hc) ⟨(callB_of 1 htw (wsC_self mC_99) rfl rfl rfl (htw _ mC_1) (htw _ mC_97) q_Y_turnOf ⟨by show 0 + 1 ≤ 1; omega, by show 8 + (2 + 11) + 0 ≤ 21; omega⟩), htw _ mC_98, htw _ mC_235⟩ (kb_preV nnC_warm nnC_same hw hN 1 (wC_1 A G _) rfl) rfl rfl hl.1 rfl (lv_room (Nat.le_of_ble_eq_true rfl)) d_Y_nextWanted_37 ⟨Nat.zero_le _, Nat.zero_le _⟩) hw (fun H locs hw => ?_)
            refine lv_istore_n (lv' := [(2, .int r5), (1, .int u3), (0, .ref (A 1)), (3, .int u3)]) hx hb d_Y_nextWanted_40 rfl hl (by decide) rfl (fun ls hl => ?_)
            refine lv_iinc (v := (u3 + 1)) (lv' := [(3, .int (u3 + 1)), (2, .int r5), (1, .int u3), (0, .ref (A 1))]) hx hb d_Y_nextWanted_41 hl (k := 3) rfl rfl (by decide) rfl (fun ls hl => ?_)
            refine lv_goto (tgt := 8) hx hb d_Y_nextWanted_44 (by decide) ?_
            exact ih u3 r5 (u3 + 1) M6 _ _ _ h hw (lv_sub hl [3, 2, 1, 0] rfl)
  have hl := lv_entry ([.ref (A 1)]) (n := 4) (Nat.le_of_ble_eq_true rfl)
  rw [lg_entry_eq]
  generalize (lg_sl ([.ref (A 1)]) ++ List.replicate (4 - (lg_sl ([.ref (A 1)])).length) Slot.unset).toArray = ls at hl ⊢
  have hl : lv_has ls 4 [(0, .ref (A 1))] := hl
  rw [f_Y_nextWanted] at h
  refine lv_iconst (v := -1) hx hb d_Y_nextWanted_0 (by decide) ?_
  refine lv_istore_n (lv' := [(1, .int (-1 : Int32)), (0, .ref (A 1))]) hx hb d_Y_nextWanted_1 rfl hl (by decide) rfl (fun ls hl => ?_)
  refine lv_sipush (v := 1000) hx hb d_Y_nextWanted_2 (by decide) ?_
  refine lv_istore_n (lv' := [(2, .int (1000 : Int32)), (1, .int (-1 : Int32)), (0, .ref (A 1))]) hx hb d_Y_nextWanted_5 rfl hl (by decide) rfl (fun ls hl => ?_)
  refine lv_iconst (v := 0) hx hb d_Y_nextWanted_6 (by decide) ?_
  refine lv_istore_n (lv' := [(3, .int (0 : Int32)), (2, .int (1000 : Int32)), (1, .int (-1 : Int32)), (0, .ref (A 1))]) hx hb d_Y_nextWanted_7 rfl hl (by decide) rfl (fun ls hl => ?_)
  exact loop_8 kb_F (-1 : Int32) (1000 : Int32) (0 : Int32) M0 _ _ _ h hw (lv_sub hl [3, 2, 1, 0] rfl)
def f_Y_isTop (x1 : Int32) (M0 : Nat → Nat → Int32) : Option (Int32 × (Nat → Nat → Int32)) := kb_cl (f_Y_isGone x1 M0) (fun r1 M2 => (if r1 = (0 : Int32) then kb_rd (M2 9) 10 x1 (fun v3 => kb_cl (f_Y_topOf v3 M2) (fun r4 M5 => (if r4 = x1 then some ((1 : Int32), M5) else some ((0 : Int32), M5)))) else some ((0 : Int32), M2)))
set_option maxHeartbeats 4000000 in
set_option maxRecDepth 100000 in
theorem c_Y_isTop (l : Launch) (D : va_G) (A : Nat → Nat) (G : Nat → ClassId) (x1 : Int32) (M0 : Nat → Nat → Int32) (r : Int32) (M' : Nat → Nat → Int32) (sz : Nat) (h : f_Y_isTop x1 M0 = some (r, M')) : kb_Ci l y_Y_isTop (Cond.code y_Y_isTop b_Y_isTop 2 (some .boolean) :: wsC) { frames := 2, cells := 0, slots := 0, locals := 43 } [.ref (A 1), .int x1] D kcl (tyC G) (wC A G M0) (wC A G M') nnC sz r := by
  refine Met.ofW (cc := b_Y_isTop) (maxL := 2) (ret := (some .boolean)) (by decide) rfl ?_
  intro p e s m args below meth c s₁ B hml hv
  obtain ⟨rfl, hpre⟩ := hv
  obtain ⟨hw, hN⟩ := kb_enter hpre
  have hx := B.exec
  have hb := B.bytes
  have hr := B.returns
  have hts := atoms_spec (ws := (Cond.code y_Y_isTop b_Y_isTop 2 (some .boolean) :: wsC)) B.pre
  have htw : ∀ w ∈ wsC, w.before ([.ref (A 1), .int x1] : List Value).toArray s = true := fun w h => hts w (List.mem_cons_of_mem _ h)
  have hown : s.vm.findClass "PileLifts$Yard" = some m.cls := findClass_of_methodNamed B.named
  have hlocks := B.notSynchronized
  have hl := lv_entry ([.ref (A 1), .int x1]) (n := 2) (Nat.le_of_ble_eq_true rfl)
  rw [lg_entry_eq]
  generalize (lg_sl ([.ref (A 1), .int x1]) ++ List.replicate (2 - (lg_sl ([.ref (A 1), .int x1])).length) Slot.unset).toArray = ls at hl ⊢
  have hl : lv_has ls 2 [(0, .ref (A 1)), (1, .int x1)] := hl
  rw [f_Y_isTop] at h
  refine lv_aload_n hx hb d_Y_isTop_0 rfl (lv_at hl 0 rfl) ?_
  refine lv_iload_n hx hb d_Y_isTop_1 rfl (lv_at hl 1 rfl) ?_
  obtain ⟨r1, M2, hc, h⟩ := kb_cl_some h
  refine kb_calli0 (va_runV (As := [.int x1]) (rest := []) ⟨hx, hb, hml, hown, htw⟩ (c_Y_isGone l D A G x1 M0 _ _ s.heap.size hc) ⟨(callB_of 1 htw (wsC_self mC_93) rfl rfl rfl (htw _ mC_1) (htw _ mC_91) q_Y_isGone ⟨by show 0 + 1 ≤ 2; omega, by show 8 + (2 + 11) + 0 ≤ 43; omega⟩), htw _ mC_92, htw _ mC_233⟩ (kb_preV nnC_warm nnC_same hw hN 1 (wC_1 A G _) rfl) rfl rfl hl.1 rfl (lv_room (Nat.le_of_ble_eq_true rfl)) d_Y_isTop_2 ⟨Nat.zero_le _, Nat.zero_le _⟩) hw (fun H locs hw => ?_)
  refine lv_if_ne (tgt := 26) hx hb d_Y_isTop_5 (by decide) (fun c => ?_) (fun c => ?_)
  · have h := kb_in c h
    refine lv_iconst (v := 0) hx hb d_Y_isTop_26 (by decide) ?_
    obtain ⟨rfl, rfl⟩ := kb_rt h
    exact kb_zret hx hb hr hw hlocks (Or.inl rfl) d_Y_isTop_27
  · have h := kb_ip c h
    refine lv_aload_n hx hb d_Y_isTop_8 rfl (lv_at hl 0 rfl) ?_
    refine lv_aload_n hx hb d_Y_isTop_9 rfl (lv_at hl 0 rfl) ?_
    refine kb_get (own := "PileLifts$Yard") (ref := "PileLifts$Yard") (C := R_Y) (T := F_Y) (N := 10) hx hb htw i_Y hown hw 1 (wC_1 A G _) rfl 8 (by decide) (htw _ mC_24) rfl rfl d_Y_isTop_10 ?_
    refine lv_iload_n hx hb d_Y_isTop_13 rfl (lv_at hl 1 rfl) ?_
    obtain ⟨v3, ev3, hi, h⟩ := kb_rd_some h
    refine kb_ald hx hb hw 9 5 rfl rfl hi ev3 d_Y_isTop_14 ?_
    obtain ⟨r4, M5, hc, h⟩ := kb_cl_some h
    refine kb_calli0 (va_runV (As := [.int v3]) (rest := []) ⟨hx, hb, hml, hown, htw⟩ (c_Y_topOf l D A G v3 M2 _ _ H.size hc) ⟨(callB_of 1 htw (wsC_self mC_124) rfl rfl rfl (htw _ mC_1) (htw _ mC_122) q_Y_topOf ⟨by show 1 + 1 ≤ 2; omega, by show 8 + (2 + 11) + 22 ≤ 43; omega⟩), htw _ mC_123, htw _ mC_240⟩ (kb_preV nnC_warm nnC_same hw hN 1 (wC_1 A G _) rfl) rfl rfl hl.1 rfl (lv_room (Nat.le_of_ble_eq_true rfl)) d_Y_isTop_15 ⟨Nat.zero_le _, Nat.zero_le _⟩) hw (fun H locs hw => ?_)
    refine lv_iload_n hx hb d_Y_isTop_18 rfl (lv_at hl 1 rfl) ?_
    refine lv_icmp_ne (tgt := 26) hx hb d_Y_isTop_19 (by decide) (fun c => ?_) (fun c => ?_)
    · have h := kb_in c h
      refine lv_iconst (v := 0) hx hb d_Y_isTop_26 (by decide) ?_
      obtain ⟨rfl, rfl⟩ := kb_rt h
      exact kb_zret hx hb hr hw hlocks (Or.inl rfl) d_Y_isTop_27
    · have h := kb_ip c h
      refine lv_iconst (v := 1) hx hb d_Y_isTop_22 (by decide) ?_
      refine lv_goto (tgt := 27) hx hb d_Y_isTop_23 (by decide) ?_
      obtain ⟨rfl, rfl⟩ := kb_rt h
      exact kb_zret hx hb hr hw hlocks (Or.inr rfl) d_Y_isTop_27
def f_S_note (x1 x2 x3 : Int32) (M0 : Nat → Nat → Int32) : Option (Int32 × (Nat → Nat → Int32)) := (if (22 : Int32) ≤ (M0 2 6) then some ((0 : Int32), M0) else kb_wr M0 11 22 (M0 2 6) x1 (fun M1 => kb_wr M1 12 22 (M1 2 6) x2 (fun M2 => kb_wr M2 13 22 (M2 2 6) x3 (fun M3 => kb_st (kb_up M3 2 (upd (M3 2) 6 ((M3 2 6) + (1 : Int32)))) (fun M4 => some ((0 : Int32), M4))))))
set_option maxHeartbeats 4000000 in
set_option maxRecDepth 100000 in
theorem c_S_note (l : Launch) (D : va_G) (A : Nat → Nat) (G : Nat → ClassId) (x1 x2 x3 : Int32) (M0 : Nat → Nat → Int32) (r : Int32) (M' : Nat → Nat → Int32) (sz : Nat) (h : f_S_note x1 x2 x3 M0 = some (r, M')) : kb_Cv l y_S_note (Cond.code y_S_note b_S_note 4 none :: wsC) { frames := 0, cells := 0, slots := 0, locals := 0 } [.ref (A 2), .int x1, .int x2, .int x3] D kcl (tyC G) (wC A G M0) (wC A G M') nnC sz := by
  refine Met.ofW (cc := b_S_note) (maxL := 4) (ret := none) (by decide) rfl ?_
  intro p e s m args below meth c s₁ B hml hv
  obtain ⟨rfl, hpre⟩ := hv
  obtain ⟨hw, hN⟩ := kb_enter hpre
  have hx := B.exec
  have hb := B.bytes
  have hr := B.returns
  have hts := atoms_spec (ws := (Cond.code y_S_note b_S_note 4 none :: wsC)) B.pre
  have htw : ∀ w ∈ wsC, w.before ([.ref (A 2), .int x1, .int x2, .int x3] : List Value).toArray s = true := fun w h => hts w (List.mem_cons_of_mem _ h)
  have hown : s.vm.findClass "PileLifts$Search" = some m.cls := findClass_of_methodNamed B.named
  have hlocks := B.notSynchronized
  have hl := lv_entry ([.ref (A 2), .int x1, .int x2, .int x3]) (n := 4) (Nat.le_of_ble_eq_true rfl)
  rw [lg_entry_eq]
  generalize (lg_sl ([.ref (A 2), .int x1, .int x2, .int x3]) ++ List.replicate (4 - (lg_sl ([.ref (A 2), .int x1, .int x2, .int x3])).length) Slot.unset).toArray = ls at hl ⊢
  have hl : lv_has ls 4 [(0, .ref (A 2)), (1, .int x1), (2, .int x2), (3, .int x3)] := hl
  rw [f_S_note] at h
  refine lv_aload_n hx hb d_S_note_0 rfl (lv_at hl 0 rfl) ?_
  refine kb_get (own := "PileLifts$Search") (ref := "PileLifts$Search") (C := R_S) (T := F_S) (N := 10) hx hb htw i_S hown hw 2 (wC_2 A G _) rfl 6 (by decide) (htw _ mC_47) rfl rfl d_S_note_1 ?_
  refine lv_bipush (v := 22) hx hb d_S_note_4 (by decide) ?_
  refine lv_icmp_ge (tgt := 49) hx hb d_S_note_6 (by decide) (fun c => ?_) (fun c => ?_)
  · have h := kb_ip c h
    obtain ⟨-, rfl⟩ := kb_rt h
    exact kb_vret hx hb hr hw hlocks d_S_note_49
  · have h := kb_in c h
    refine lv_aload_n hx hb d_S_note_9 rfl (lv_at hl 0 rfl) ?_
    refine kb_get (own := "PileLifts$Search") (ref := "PileLifts$Search") (C := R_S) (T := F_S) (N := 10) hx hb htw i_S hown hw 2 (wC_2 A G _) rfl 7 (by decide) (htw _ mC_48) rfl rfl d_S_note_10 ?_
    refine lv_aload_n hx hb d_S_note_13 rfl (lv_at hl 0 rfl) ?_
    refine kb_get (own := "PileLifts$Search") (ref := "PileLifts$Search") (C := R_S) (T := F_S) (N := 10) hx hb htw i_S hown hw 2 (wC_2 A G _) rfl 6 (by decide) (htw _ mC_47) rfl rfl d_S_note_14 ?_
    refine lv_iload_n hx hb d_S_note_17 rfl (lv_at hl 1 rfl) ?_
    obtain ⟨M1, eM1, hi, h⟩ := kb_wr_some h
    refine kb_ast (ws' := (wC A G M1)) hx hb hw 11 7 rfl rfl hi d_S_note_18 (by rw [eM1]; rfl) (fun H locs hw => ?_)
    refine lv_aload_n hx hb d_S_note_19 rfl (lv_at hl 0 rfl) ?_
    refine kb_get (own := "PileLifts$Search") (ref := "PileLifts$Search") (C := R_S) (T := F_S) (N := 10) hx hb htw i_S hown hw 2 (wC_2 A G _) rfl 8 (by decide) (htw _ mC_49) rfl rfl d_S_note_20 ?_
    refine lv_aload_n hx hb d_S_note_23 rfl (lv_at hl 0 rfl) ?_
    refine kb_get (own := "PileLifts$Search") (ref := "PileLifts$Search") (C := R_S) (T := F_S) (N := 10) hx hb htw i_S hown hw 2 (wC_2 A G _) rfl 6 (by decide) (htw _ mC_47) rfl rfl d_S_note_24 ?_
    refine lv_iload_n hx hb d_S_note_27 rfl (lv_at hl 2 rfl) ?_
    obtain ⟨M2, eM2, hi, h⟩ := kb_wr_some h
    refine kb_ast (ws' := (wC A G M2)) hx hb hw 12 8 rfl rfl hi d_S_note_28 (by rw [eM2]; rfl) (fun H locs hw => ?_)
    refine lv_aload_n hx hb d_S_note_29 rfl (lv_at hl 0 rfl) ?_
    refine kb_get (own := "PileLifts$Search") (ref := "PileLifts$Search") (C := R_S) (T := F_S) (N := 10) hx hb htw i_S hown hw 2 (wC_2 A G _) rfl 9 (by decide) (htw _ mC_50) rfl rfl d_S_note_30 ?_
    refine lv_aload_n hx hb d_S_note_33 rfl (lv_at hl 0 rfl) ?_
    refine kb_get (own := "PileLifts$Search") (ref := "PileLifts$Search") (C := R_S) (T := F_S) (N := 10) hx hb htw i_S hown hw 2 (wC_2 A G _) rfl 6 (by decide) (htw _ mC_47) rfl rfl d_S_note_34 ?_
    refine lv_iload_n hx hb d_S_note_37 rfl (lv_at hl 3 rfl) ?_
    obtain ⟨M3, eM3, hi, h⟩ := kb_wr_some h
    refine kb_ast (ws' := (wC A G M3)) hx hb hw 13 9 rfl rfl hi d_S_note_38 (by rw [eM3]; rfl) (fun H locs hw => ?_)
    refine lv_aload_n hx hb d_S_note_39 rfl (lv_at hl 0 rfl) ?_
    refine lv_dup hx hb d_S_note_40 rfl ?_
    refine kb_get (own := "PileLifts$Search") (ref := "PileLifts$Search") (C := R_S) (T := F_S) (N := 10) hx hb htw i_S hown hw 2 (wC_2 A G _) rfl 6 (by decide) (htw _ mC_47) rfl rfl d_S_note_41 ?_
    refine lv_iconst (v := 1) hx hb d_S_note_44 (by decide) ?_
    refine lv_iadd hx hb d_S_note_45 ?_
    obtain ⟨M4, eM4, h⟩ := kb_st_some h
    refine kb_put (ws' := (wC A G M4)) (own := "PileLifts$Search") (ref := "PileLifts$Search") (C := R_S) (T := F_S) (N := 10) (ty := .int) hx hb htw i_S t_S t_S_ok n_S hown hw 2 (wC_2 A G _) rfl 6 (by decide) (htw _ mC_47) rfl rfl (by decide +kernel) rfl rfl (Nat.le_of_ble_eq_true rfl) d_S_note_46 (by rw [eM4]; rfl) (fun H locs hw => ?_)
    obtain ⟨-, rfl⟩ := kb_rt h
    exact kb_vret hx hb hr hw hlocks d_S_note_49
def f_Y_takeOff (x1 : Int32) (M0 : Nat → Nat → Int32) : Option (Int32 × (Nat → Nat → Int32)) := kb_rd (M0 9) 10 x1 (fun v1 => (if v1 = (-1 : Int32) then some ((0 : Int32), M0) else kb_rd (M0 4) 4 v1 (fun v2 => kb_wr M0 4 4 v1 (v2 - (1 : Int32)) (fun M3 => kb_wr M3 9 10 x1 (-1 : Int32) (fun M4 => kb_wr M4 10 10 x1 (-1 : Int32) (fun M5 => some ((0 : Int32), M5)))))))
set_option maxHeartbeats 4000000 in
set_option maxRecDepth 100000 in
theorem c_Y_takeOff (l : Launch) (D : va_G) (A : Nat → Nat) (G : Nat → ClassId) (x1 : Int32) (M0 : Nat → Nat → Int32) (r : Int32) (M' : Nat → Nat → Int32) (sz : Nat) (h : f_Y_takeOff x1 M0 = some (r, M')) : kb_Cv l y_Y_takeOff (Cond.code y_Y_takeOff b_Y_takeOff 3 none :: wsC) { frames := 0, cells := 0, slots := 0, locals := 0 } [.ref (A 1), .int x1] D kcl (tyC G) (wC A G M0) (wC A G M') nnC sz := by
  refine Met.ofW (cc := b_Y_takeOff) (maxL := 3) (ret := none) (by decide) rfl ?_
  intro p e s m args below meth c s₁ B hml hv
  obtain ⟨rfl, hpre⟩ := hv
  obtain ⟨hw, hN⟩ := kb_enter hpre
  have hx := B.exec
  have hb := B.bytes
  have hr := B.returns
  have hts := atoms_spec (ws := (Cond.code y_Y_takeOff b_Y_takeOff 3 none :: wsC)) B.pre
  have htw : ∀ w ∈ wsC, w.before ([.ref (A 1), .int x1] : List Value).toArray s = true := fun w h => hts w (List.mem_cons_of_mem _ h)
  have hown : s.vm.findClass "PileLifts$Yard" = some m.cls := findClass_of_methodNamed B.named
  have hlocks := B.notSynchronized
  have hl := lv_entry ([.ref (A 1), .int x1]) (n := 3) (Nat.le_of_ble_eq_true rfl)
  rw [lg_entry_eq]
  generalize (lg_sl ([.ref (A 1), .int x1]) ++ List.replicate (3 - (lg_sl ([.ref (A 1), .int x1])).length) Slot.unset).toArray = ls at hl ⊢
  have hl : lv_has ls 3 [(0, .ref (A 1)), (1, .int x1)] := hl
  rw [f_Y_takeOff] at h
  refine lv_aload_n hx hb d_Y_takeOff_0 rfl (lv_at hl 0 rfl) ?_
  refine kb_get (own := "PileLifts$Yard") (ref := "PileLifts$Yard") (C := R_Y) (T := F_Y) (N := 10) hx hb htw i_Y hown hw 1 (wC_1 A G _) rfl 8 (by decide) (htw _ mC_24) rfl rfl d_Y_takeOff_1 ?_
  refine lv_iload_n hx hb d_Y_takeOff_4 rfl (lv_at hl 1 rfl) ?_
  obtain ⟨v1, ev1, hi, h⟩ := kb_rd_some h
  refine kb_ald hx hb hw 9 5 rfl rfl hi ev1 d_Y_takeOff_5 ?_
  refine lv_istore_n (lv' := [(2, .int v1), (0, .ref (A 1)), (1, .int x1)]) hx hb d_Y_takeOff_6 rfl hl (by decide) rfl (fun ls hl => ?_)
  refine lv_iload_n hx hb d_Y_takeOff_7 rfl (lv_at hl 0 rfl) ?_
  refine lv_iconst (v := -1) hx hb d_Y_takeOff_8 (by decide) ?_
  refine lv_icmp_eq (tgt := 36) hx hb d_Y_takeOff_9 (by decide) (fun c => ?_) (fun c => ?_)
  · have h := kb_ip c h
    obtain ⟨-, rfl⟩ := kb_rt h
    exact kb_vret hx hb hr hw hlocks d_Y_takeOff_36
  · have h := kb_in c h
    refine lv_aload_n hx hb d_Y_takeOff_12 rfl (lv_at hl 1 rfl) ?_
    refine kb_get (own := "PileLifts$Yard") (ref := "PileLifts$Yard") (C := R_Y) (T := F_Y) (N := 10) hx hb htw i_Y hown hw 1 (wC_1 A G _) rfl 3 (by decide) (htw _ mC_19) rfl rfl d_Y_takeOff_13 ?_
    refine lv_iload_n hx hb d_Y_takeOff_16 rfl (lv_at hl 0 rfl) ?_
    refine lv_dup2_11 hx hb d_Y_takeOff_17 rfl rfl ?_
    obtain ⟨v2, ev2, hi, h⟩ := kb_rd_some h
    refine kb_ald hx hb hw 4 0 rfl rfl hi ev2 d_Y_takeOff_18 ?_
    refine lv_iconst (v := 1) hx hb d_Y_takeOff_19 (by decide) ?_
    refine lv_isub hx hb d_Y_takeOff_20 ?_
    obtain ⟨M3, eM3, hi, h⟩ := kb_wr_some h
    refine kb_ast (ws' := (wC A G M3)) hx hb hw 4 0 rfl rfl hi d_Y_takeOff_21 (by rw [eM3]; rfl) (fun H locs hw => ?_)
    refine lv_aload_n hx hb d_Y_takeOff_22 rfl (lv_at hl 1 rfl) ?_
    refine kb_get (own := "PileLifts$Yard") (ref := "PileLifts$Yard") (C := R_Y) (T := F_Y) (N := 10) hx hb htw i_Y hown hw 1 (wC_1 A G _) rfl 8 (by decide) (htw _ mC_24) rfl rfl d_Y_takeOff_23 ?_
    refine lv_iload_n hx hb d_Y_takeOff_26 rfl (lv_at hl 2 rfl) ?_
    refine lv_iconst (v := -1) hx hb d_Y_takeOff_27 (by decide) ?_
    obtain ⟨M4, eM4, hi, h⟩ := kb_wr_some h
    refine kb_ast (ws' := (wC A G M4)) hx hb hw 9 5 rfl rfl hi d_Y_takeOff_28 (by rw [eM4]; rfl) (fun H locs hw => ?_)
    refine lv_aload_n hx hb d_Y_takeOff_29 rfl (lv_at hl 1 rfl) ?_
    refine kb_get (own := "PileLifts$Yard") (ref := "PileLifts$Yard") (C := R_Y) (T := F_Y) (N := 10) hx hb htw i_Y hown hw 1 (wC_1 A G _) rfl 9 (by decide) (htw _ mC_25) rfl rfl d_Y_takeOff_30 ?_
    refine lv_iload_n hx hb d_Y_takeOff_33 rfl (lv_at hl 2 rfl) ?_
    refine lv_iconst (v := -1) hx hb d_Y_takeOff_34 (by decide) ?_
    obtain ⟨M5, eM5, hi, h⟩ := kb_wr_some h
    refine kb_ast (ws' := (wC A G M5)) hx hb hw 10 6 rfl rfl hi d_Y_takeOff_35 (by rw [eM5]; rfl) (fun H locs hw => ?_)
    obtain ⟨-, rfl⟩ := kb_rt h
    exact kb_vret hx hb hr hw hlocks d_Y_takeOff_36
def h_S_letLeave_2 : Nat → Int32 → (Nat → Nat → Int32) → Option (Int32 × (Nat → Nat → Int32))
  | 0, _, _ => none
  | n + 1, u2, M => (if (10 : Int32) ≤ u2 then some ((0 : Int32), M) else kb_cl (f_Y_nextWanted M) (fun r1 M2 => (if r1 = (-1 : Int32) then some ((0 : Int32), M2) else kb_cl (f_Y_isTop r1 M2) (fun r3 M4 => (if r3 = (0 : Int32) then some ((0 : Int32), M4) else kb_rd (M4 9) 10 r1 (fun v5 => kb_cl (f_S_note r1 v5 (-1 : Int32) M4) (fun r6 M7 => kb_cl (f_Y_takeOff r1 M7) (fun r8 M9 => h_S_letLeave_2 n (u2 + 1) M9))))))))
def f_S_letLeave (M0 : Nat → Nat → Int32) : Option (Int32 × (Nat → Nat → Int32)) := h_S_letLeave_2 kb_F (0 : Int32) M0
set_option maxHeartbeats 4000000 in
set_option maxRecDepth 100000 in
theorem c_S_letLeave (l : Launch) (D : va_G) (A : Nat → Nat) (G : Nat → ClassId) (M0 : Nat → Nat → Int32) (r : Int32) (M' : Nat → Nat → Int32) (sz : Nat) (h : f_S_letLeave M0 = some (r, M')) : kb_Cv l y_S_letLeave (Cond.code y_S_letLeave b_S_letLeave 4 none :: wsC) { frames := 3, cells := 0, slots := 0, locals := 64 } [.ref (A 2), .ref (A 1)] D kcl (tyC G) (wC A G M0) (wC A G M') nnC sz := by
  refine Met.ofW (cc := b_S_letLeave) (maxL := 4) (ret := none) (by decide) rfl ?_
  intro p e s m args below meth c s₁ B hml hv
  obtain ⟨rfl, hpre⟩ := hv
  obtain ⟨hw, hN⟩ := kb_enter hpre
  have hx := B.exec
  have hb := B.bytes
  have hr := B.returns
  have hts := atoms_spec (ws := (Cond.code y_S_letLeave b_S_letLeave 4 none :: wsC)) B.pre
  have htw : ∀ w ∈ wsC, w.before ([.ref (A 2), .ref (A 1)] : List Value).toArray s = true := fun w h => hts w (List.mem_cons_of_mem _ h)
  have hown : s.vm.findClass "PileLifts$Search" = some m.cls := findClass_of_methodNamed B.named
  have hlocks := B.notSynchronized
  have loop_2 : ∀ (n2 : Nat) (u2 : Int32) (M : Nat → Nat → Int32) (H : Heap) (locs : List Loc) (ls : Array Slot), h_S_letLeave_2 n2 u2 M = some (r, M') → kb_K D kcl (tyC G) (wC A G M) s (va_A (wC A G M0) sz) H locs → lv_has ls 4 [(0, .ref (A 2)), (1, .ref (A 1)), (2, .int u2)] → W p l e (headSpec (Cond.code y_S_letLeave b_S_letLeave 4 none :: wsC) { frames := 3, cells := 0, slots := 0, locals := 64 }).room s m ([.ref (A 2), .ref (A 1)] : List Value).toArray below meth c H locs 0 0 (kb_Qv D kcl (tyC G) (wC A G M0) (wC A G M') sz below ([.ref (A 2), .ref (A 1)] : List Value).toArray s) (F0 m 2 ls []) := by
    intro n2
    induction n2 with
    | zero =>
      intro u2 M H locs ls h
      cases h
    | succ n2 ih =>
      intro u2 M H locs ls h hw hl
      rw [h_S_letLeave_2] at h
      refine lv_iload_n hx hb d_S_letLeave_2 rfl (lv_at hl 2 rfl) ?_
      refine lv_bipush (v := 10) hx hb d_S_letLeave_3 (by decide) ?_
      refine lv_icmp_ge (tgt := 50) hx hb d_S_letLeave_5 (by decide) (fun c => ?_) (fun c => ?_)
      · have h := kb_ip c h
        obtain ⟨-, rfl⟩ := kb_rt h
        exact kb_vret hx hb hr hw hlocks d_S_letLeave_50
      · have h := kb_in c h
        refine lv_aload_n hx hb d_S_letLeave_8 rfl (lv_at hl 1 rfl) ?_
        obtain ⟨r1, M2, hc, h⟩ := kb_cl_some h
        refine kb_calli0 (va_runVN (As := []) (rest := []) ⟨hx, hb, hml, hown, htw⟩ (c_Y_nextWanted l D A G M _ _ H.size hc) ⟨(va_cnB 0 htw (wsC_self mC_159) rfl rfl rfl (nm_S_68 hN) (htw _ mC_1) q_Y_nextWanted ⟨by show 1 + 1 ≤ 3; omega, by show 8 + (4 + 11) + 21 ≤ 64; omega⟩), htw _ mC_158, htw _ mC_248⟩ (kb_preV nnC_warm nnC_same hw hN 1 (wC_1 A G _) rfl) rfl rfl hl.1 rfl (lv_room (Nat.le_of_ble_eq_true rfl)) d_S_letLeave_9 ⟨Nat.zero_le _, Nat.zero_le _⟩) hw (fun H locs hw => ?_)
        refine lv_istore_n (lv' := [(3, .int r1), (0, .ref (A 2)), (1, .ref (A 1)), (2, .int u2)]) hx hb d_S_letLeave_12 rfl hl (by decide) rfl (fun ls hl => ?_)
        refine lv_iload_n hx hb d_S_letLeave_13 rfl (lv_at hl 0 rfl) ?_
        refine lv_iconst (v := -1) hx hb d_S_letLeave_14 (by decide) ?_
        refine lv_icmp_eq (tgt := 26) hx hb d_S_letLeave_15 (by decide) (fun c => ?_) (fun c => ?_)
        · have h := kb_ip c h
          obtain ⟨-, rfl⟩ := kb_rt h
          exact kb_vret hx hb hr hw hlocks d_S_letLeave_26
        · have h := kb_in c h
          refine lv_aload_n hx hb d_S_letLeave_18 rfl (lv_at hl 2 rfl) ?_
          refine lv_iload_n hx hb d_S_letLeave_19 rfl (lv_at hl 0 rfl) ?_
          obtain ⟨r3, M4, hc, h⟩ := kb_cl_some h
          refine kb_calli0 (va_runVN (As := [.int r1]) (rest := []) ⟨hx, hb, hml, hown, htw⟩ (c_Y_isTop l D A G r1 M2 _ _ H.size hc) ⟨(va_cnB 1 htw (wsC_self mC_161) rfl rfl rfl (nm_S_111 hN) (htw _ mC_1) q_Y_isTop ⟨by show 2 + 1 ≤ 3; omega, by show 8 + (2 + 11) + 43 ≤ 64; omega⟩), htw _ mC_160, htw _ mC_249⟩ (kb_preV nnC_warm nnC_same hw hN 1 (wC_1 A G _) rfl) rfl rfl hl.1 rfl (lv_room (Nat.le_of_ble_eq_true rfl)) d_S_letLeave_20 ⟨Nat.zero_le _, Nat.zero_le _⟩) hw (fun H locs hw => ?_)
          refine lv_if_ne (tgt := 27) hx hb d_S_letLeave_23 (by decide) (fun c => ?_) (fun c => ?_)
          · have h := kb_in c h
            refine lv_aload_n hx hb d_S_letLeave_27 rfl (lv_at hl 1 rfl) ?_
            refine lv_iload_n hx hb d_S_letLeave_28 rfl (lv_at hl 0 rfl) ?_
            refine lv_aload_n hx hb d_S_letLeave_29 rfl (lv_at hl 2 rfl) ?_
            refine kb_getN (own := "PileLifts$Search") (ref := "PileLifts$Yard") (C := R_Y) (T := F_Y) (N := 10) hx hb htw i_Y hown hw 1 (wC_1 A G _) rfl 8 (by decide) (va_Nw.use rfl (nf_S_100 hN)) rfl rfl d_S_letLeave_30 ?_
            refine lv_iload_n hx hb d_S_letLeave_33 rfl (lv_at hl 0 rfl) ?_
            obtain ⟨v5, ev5, hi, h⟩ := kb_rd_some h
            refine kb_ald hx hb hw 9 5 rfl rfl hi ev5 d_S_letLeave_34 ?_
            refine lv_iconst (v := -1) hx hb d_S_letLeave_35 (by decide) ?_
            obtain ⟨r6, M7, hc, h⟩ := kb_cl_some h
            refine kb_callv0 (va_runV (As := [.int r1, .int v5, .int (-1 : Int32)]) (rest := []) ⟨hx, hb, hml, hown, htw⟩ (c_S_note l D A G r1 v5 (-1 : Int32) M4 _ _ H.size hc) ⟨(callB_of 3 htw (wsC_self mC_164) rfl rfl rfl (htw _ mC_2) (htw _ mC_162) q_S_note ⟨by show 0 + 1 ≤ 3; omega, by show 8 + (4 + 11) + 0 ≤ 64; omega⟩), htw _ mC_163, htw _ mC_250⟩ (kb_preV nnC_warm nnC_same hw hN 2 (wC_2 A G _) rfl) rfl rfl hl.1 rfl (lv_room (Nat.le_of_ble_eq_true rfl)) d_S_letLeave_36 ⟨Nat.zero_le _, Nat.zero_le _⟩) hw (fun H locs hw => ?_)
            refine lv_aload_n hx hb d_S_letLeave_39 rfl (lv_at hl 2 rfl) ?_
            refine lv_iload_n hx hb d_S_letLeave_40 rfl (lv_at hl 0 rfl) ?_
            obtain ⟨r8, M9, hc, h⟩ := kb_cl_some h
            refine kb_callv0 (va_runVN (As := [.int r1]) (rest := []) ⟨hx, hb, hml, hown, htw⟩ (c_Y_takeOff l D A G r1 M7 _ _ H.size hc) ⟨(va_cnB 1 htw (wsC_self mC_166) rfl rfl rfl (nm_S_114 hN) (htw _ mC_1) q_Y_takeOff ⟨by show 0 + 1 ≤ 3; omega, by show 8 + (3 + 11) + 0 ≤ 64; omega⟩), htw _ mC_165, htw _ mC_251⟩ (kb_preV nnC_warm nnC_same hw hN 1 (wC_1 A G _) rfl) rfl rfl hl.1 rfl (lv_room (Nat.le_of_ble_eq_true rfl)) d_S_letLeave_41 ⟨Nat.zero_le _, Nat.zero_le _⟩) hw (fun H locs hw => ?_)
            refine lv_iinc (v := (u2 + 1)) (lv' := [(2, .int (u2 + 1)), (3, .int r1), (0, .ref (A 2)), (1, .ref (A 1))]) hx hb d_S_letLeave_44 hl (k := 3) rfl rfl (by decide) rfl (fun ls hl => ?_)
            refine lv_goto (tgt := 2) hx hb d_S_letLeave_47 (by decide) ?_
            exact ih (u2 + 1) M9 _ _ _ h hw (lv_sub hl [2, 3, 0] rfl)
          · have h := kb_ip c h
            obtain ⟨-, rfl⟩ := kb_rt h
            exact kb_vret hx hb hr hw hlocks d_S_letLeave_26
  have hl := lv_entry ([.ref (A 2), .ref (A 1)]) (n := 4) (Nat.le_of_ble_eq_true rfl)
  rw [lg_entry_eq]
  generalize (lg_sl ([.ref (A 2), .ref (A 1)]) ++ List.replicate (4 - (lg_sl ([.ref (A 2), .ref (A 1)])).length) Slot.unset).toArray = ls at hl ⊢
  have hl : lv_has ls 4 [(0, .ref (A 2)), (1, .ref (A 1))] := hl
  rw [f_S_letLeave] at h
  refine lv_iconst (v := 0) hx hb d_S_letLeave_0 (by decide) ?_
  refine lv_istore_n (lv' := [(2, .int (0 : Int32)), (0, .ref (A 2)), (1, .ref (A 1))]) hx hb d_S_letLeave_1 rfl hl (by decide) rfl (fun ls hl => ?_)
  exact loop_2 kb_F (0 : Int32) M0 _ _ _ h hw (lv_sub hl [1, 2, 0] rfl)
def f_Y_wouldBlockOn (x1 x2 : Int32) (M0 : Nat → Nat → Int32) : Option (Int32 × (Nat → Nat → Int32)) := kb_rd (M0 4) 4 x2 (fun v1 => kb_cl (f_Y_wouldBlock x1 x2 v1 M0) (fun r2 M3 => kb_bz r2 (some (r2, M3))))
set_option maxHeartbeats 4000000 in
set_option maxRecDepth 100000 in
theorem c_Y_wouldBlockOn (l : Launch) (D : va_G) (A : Nat → Nat) (G : Nat → ClassId) (x1 x2 : Int32) (M0 : Nat → Nat → Int32) (r : Int32) (M' : Nat → Nat → Int32) (sz : Nat) (h : f_Y_wouldBlockOn x1 x2 M0 = some (r, M')) : kb_Ci l y_Y_wouldBlockOn (Cond.code y_Y_wouldBlockOn b_Y_wouldBlockOn 3 (some .boolean) :: wsC) { frames := 2, cells := 0, slots := 0, locals := 47 } [.ref (A 1), .int x1, .int x2] D kcl (tyC G) (wC A G M0) (wC A G M') nnC sz r := by
  refine Met.ofW (cc := b_Y_wouldBlockOn) (maxL := 3) (ret := (some .boolean)) (by decide) rfl ?_
  intro p e s m args below meth c s₁ B hml hv
  obtain ⟨rfl, hpre⟩ := hv
  obtain ⟨hw, hN⟩ := kb_enter hpre
  have hx := B.exec
  have hb := B.bytes
  have hr := B.returns
  have hts := atoms_spec (ws := (Cond.code y_Y_wouldBlockOn b_Y_wouldBlockOn 3 (some .boolean) :: wsC)) B.pre
  have htw : ∀ w ∈ wsC, w.before ([.ref (A 1), .int x1, .int x2] : List Value).toArray s = true := fun w h => hts w (List.mem_cons_of_mem _ h)
  have hown : s.vm.findClass "PileLifts$Yard" = some m.cls := findClass_of_methodNamed B.named
  have hlocks := B.notSynchronized
  have hl := lv_entry ([.ref (A 1), .int x1, .int x2]) (n := 3) (Nat.le_of_ble_eq_true rfl)
  rw [lg_entry_eq]
  generalize (lg_sl ([.ref (A 1), .int x1, .int x2]) ++ List.replicate (3 - (lg_sl ([.ref (A 1), .int x1, .int x2])).length) Slot.unset).toArray = ls at hl ⊢
  have hl : lv_has ls 3 [(0, .ref (A 1)), (1, .int x1), (2, .int x2)] := hl
  rw [f_Y_wouldBlockOn] at h
  refine lv_aload_n hx hb d_Y_wouldBlockOn_0 rfl (lv_at hl 0 rfl) ?_
  refine lv_iload_n hx hb d_Y_wouldBlockOn_1 rfl (lv_at hl 1 rfl) ?_
  refine lv_iload_n hx hb d_Y_wouldBlockOn_2 rfl (lv_at hl 2 rfl) ?_
  refine lv_aload_n hx hb d_Y_wouldBlockOn_3 rfl (lv_at hl 0 rfl) ?_
  refine kb_get (own := "PileLifts$Yard") (ref := "PileLifts$Yard") (C := R_Y) (T := F_Y) (N := 10) hx hb htw i_Y hown hw 1 (wC_1 A G _) rfl 3 (by decide) (htw _ mC_19) rfl rfl d_Y_wouldBlockOn_4 ?_
  refine lv_iload_n hx hb d_Y_wouldBlockOn_7 rfl (lv_at hl 2 rfl) ?_
  obtain ⟨v1, ev1, hi, h⟩ := kb_rd_some h
  refine kb_ald hx hb hw 4 0 rfl rfl hi ev1 d_Y_wouldBlockOn_8 ?_
  obtain ⟨r2, M3, hc, h⟩ := kb_cl_some h
  refine kb_calli0 (va_runV (As := [.int x1, .int x2, .int v1]) (rest := []) ⟨hx, hb, hml, hown, htw⟩ (c_Y_wouldBlock l D A G x1 x2 v1 M0 _ _ s.heap.size hc) ⟨(callB_of 3 htw (wsC_self mC_96) rfl rfl rfl (htw _ mC_1) (htw _ mC_94) q_Y_wouldBlock ⟨by show 1 + 1 ≤ 2; omega, by show 8 + (6 + 11) + 22 ≤ 47; omega⟩), htw _ mC_95, htw _ mC_234⟩ (kb_preV nnC_warm nnC_same hw hN 1 (wC_1 A G _) rfl) rfl rfl hl.1 rfl (lv_room (Nat.le_of_ble_eq_true rfl)) d_Y_wouldBlockOn_9 ⟨Nat.zero_le _, Nat.zero_le _⟩) hw (fun H locs hw => ?_)
  obtain ⟨hz, h⟩ := kb_bz_some h
  obtain ⟨rfl, rfl⟩ := kb_rt h
  exact kb_zret hx hb hr hw hlocks hz d_Y_wouldBlockOn_12
def f_Y_relift (x1 x2 : Int32) (M0 : Nat → Nat → Int32) : Option (Int32 × (Nat → Nat → Int32)) := kb_cl (f_Y_takeOff x1 M0) (fun r1 M2 => kb_cl (f_Y_layOn x1 x2 M2) (fun r3 M4 => some ((0 : Int32), M4)))
set_option maxHeartbeats 4000000 in
set_option maxRecDepth 100000 in
theorem c_Y_relift (l : Launch) (D : va_G) (A : Nat → Nat) (G : Nat → ClassId) (x1 x2 : Int32) (M0 : Nat → Nat → Int32) (r : Int32) (M' : Nat → Nat → Int32) (sz : Nat) (h : f_Y_relift x1 x2 M0 = some (r, M')) : kb_Cv l y_Y_relift (Cond.code y_Y_relift b_Y_relift 3 none :: wsC) { frames := 1, cells := 0, slots := 0, locals := 23 } [.ref (A 1), .int x1, .int x2] D kcl (tyC G) (wC A G M0) (wC A G M') nnC sz := by
  refine Met.ofW (cc := b_Y_relift) (maxL := 3) (ret := none) (by decide) rfl ?_
  intro p e s m args below meth c s₁ B hml hv
  obtain ⟨rfl, hpre⟩ := hv
  obtain ⟨hw, hN⟩ := kb_enter hpre
  have hx := B.exec
  have hb := B.bytes
  have hr := B.returns
  have hts := atoms_spec (ws := (Cond.code y_Y_relift b_Y_relift 3 none :: wsC)) B.pre
  have htw : ∀ w ∈ wsC, w.before ([.ref (A 1), .int x1, .int x2] : List Value).toArray s = true := fun w h => hts w (List.mem_cons_of_mem _ h)
  have hown : s.vm.findClass "PileLifts$Yard" = some m.cls := findClass_of_methodNamed B.named
  have hlocks := B.notSynchronized
  have hl := lv_entry ([.ref (A 1), .int x1, .int x2]) (n := 3) (Nat.le_of_ble_eq_true rfl)
  rw [lg_entry_eq]
  generalize (lg_sl ([.ref (A 1), .int x1, .int x2]) ++ List.replicate (3 - (lg_sl ([.ref (A 1), .int x1, .int x2])).length) Slot.unset).toArray = ls at hl ⊢
  have hl : lv_has ls 3 [(0, .ref (A 1)), (1, .int x1), (2, .int x2)] := hl
  rw [f_Y_relift] at h
  refine lv_aload_n hx hb d_Y_relift_0 rfl (lv_at hl 0 rfl) ?_
  refine lv_iload_n hx hb d_Y_relift_1 rfl (lv_at hl 1 rfl) ?_
  obtain ⟨r1, M2, hc, h⟩ := kb_cl_some h
  refine kb_callv0 (va_runV (As := [.int x1]) (rest := []) ⟨hx, hb, hml, hown, htw⟩ (c_Y_takeOff l D A G x1 M0 _ _ s.heap.size hc) ⟨(callB_of 1 htw (wsC_self mC_166) rfl rfl rfl (htw _ mC_1) (htw _ mC_177) q_Y_takeOff ⟨by show 0 + 1 ≤ 1; omega, by show 8 + (3 + 11) + 0 ≤ 23; omega⟩), htw _ mC_165, htw _ mC_251⟩ (kb_preV nnC_warm nnC_same hw hN 1 (wC_1 A G _) rfl) rfl rfl hl.1 rfl (lv_room (Nat.le_of_ble_eq_true rfl)) d_Y_relift_2 ⟨Nat.zero_le _, Nat.zero_le _⟩) hw (fun H locs hw => ?_)
  refine lv_aload_n hx hb d_Y_relift_5 rfl (lv_at hl 0 rfl) ?_
  refine lv_iload_n hx hb d_Y_relift_6 rfl (lv_at hl 1 rfl) ?_
  refine lv_iload_n hx hb d_Y_relift_7 rfl (lv_at hl 2 rfl) ?_
  obtain ⟨r3, M4, hc, h⟩ := kb_cl_some h
  refine kb_callv0 (va_runV (As := [.int x1, .int x2]) (rest := []) ⟨hx, hb, hml, hown, htw⟩ (c_Y_layOn l D A G x1 x2 M2 _ _ H.size hc) ⟨(callB_of 2 htw (wsC_self mC_131) rfl rfl rfl (htw _ mC_1) (htw _ mC_129) q_Y_layOn ⟨by show 0 + 1 ≤ 1; omega, by show 8 + (4 + 11) + 0 ≤ 23; omega⟩), htw _ mC_130, htw _ mC_242⟩ (kb_preV nnC_warm nnC_same hw hN 1 (wC_1 A G _) rfl) rfl rfl hl.1 rfl (lv_room (Nat.le_of_ble_eq_true rfl)) d_Y_relift_8 ⟨Nat.zero_le _, Nat.zero_le _⟩) hw (fun H locs hw => ?_)
  obtain ⟨-, rfl⟩ := kb_rt h
  exact kb_vret hx hb hr hw hlocks d_Y_relift_11
def h_S_takeBack_44 (k0 : Int32 → (Nat → Nat → Int32) → Option (Int32 × (Nat → Nat → Int32))) (u2 : Int32) (M : Nat → Nat → Int32) : Option (Int32 × (Nat → Nat → Int32)) := kb_rd (M 11) 22 (M 2 6) (fun v3 => kb_rd (M 12) 22 (M 2 6) (fun v4 => kb_cl (f_Y_layOn v3 v4 M) (fun r5 M6 => k0 u2 M6)))
def h_S_takeBack_0 : Nat → Int32 → (Nat → Nat → Int32) → Option (Int32 × (Nat → Nat → Int32))
  | 0, _, _ => none
  | n + 1, u2, M => (if (M 2 6) ≤ u2 then some ((0 : Int32), M) else kb_st (kb_up M 2 (upd (M 2) 6 ((M 2 6) - (1 : Int32)))) (fun M1 => kb_rd (M1 13) 22 (M1 2 6) (fun v2 => (if v2 = (-1 : Int32) then h_S_takeBack_44 (fun y0 N => h_S_takeBack_0 n y0 N) u2 M1 else kb_rd (M1 11) 22 (M1 2 6) (fun v7 => kb_cl (f_Y_takeOff v7 M1) (fun r8 M9 => h_S_takeBack_44 (fun y0 N => h_S_takeBack_0 n y0 N) u2 M9))))))
def f_S_takeBack (x2 : Int32) (M0 : Nat → Nat → Int32) : Option (Int32 × (Nat → Nat → Int32)) := h_S_takeBack_0 kb_F x2 M0
set_option maxHeartbeats 4000000 in
set_option maxRecDepth 100000 in
theorem c_S_takeBack (l : Launch) (D : va_G) (A : Nat → Nat) (G : Nat → ClassId) (x2 : Int32) (M0 : Nat → Nat → Int32) (r : Int32) (M' : Nat → Nat → Int32) (sz : Nat) (h : f_S_takeBack x2 M0 = some (r, M')) : kb_Cv l y_S_takeBack (Cond.code y_S_takeBack b_S_takeBack 3 none :: wsC) { frames := 1, cells := 0, slots := 0, locals := 23 } [.ref (A 2), .ref (A 1), .int x2] D kcl (tyC G) (wC A G M0) (wC A G M') nnC sz := by
  refine Met.ofW (cc := b_S_takeBack) (maxL := 3) (ret := none) (by decide) rfl ?_
  intro p e s m args below meth c s₁ B hml hv
  obtain ⟨rfl, hpre⟩ := hv
  obtain ⟨hw, hN⟩ := kb_enter hpre
  have hx := B.exec
  have hb := B.bytes
  have hr := B.returns
  have hts := atoms_spec (ws := (Cond.code y_S_takeBack b_S_takeBack 3 none :: wsC)) B.pre
  have htw : ∀ w ∈ wsC, w.before ([.ref (A 2), .ref (A 1), .int x2] : List Value).toArray s = true := fun w h => hts w (List.mem_cons_of_mem _ h)
  have hown : s.vm.findClass "PileLifts$Search" = some m.cls := findClass_of_methodNamed B.named
  have hlocks := B.notSynchronized
  have loop_0 : ∀ (n0 : Nat) (u2 : Int32) (M : Nat → Nat → Int32) (H : Heap) (locs : List Loc) (ls : Array Slot), h_S_takeBack_0 n0 u2 M = some (r, M') → kb_K D kcl (tyC G) (wC A G M) s (va_A (wC A G M0) sz) H locs → lv_has ls 3 [(0, .ref (A 2)), (1, .ref (A 1)), (2, .int u2)] → W p l e (headSpec (Cond.code y_S_takeBack b_S_takeBack 3 none :: wsC) { frames := 1, cells := 0, slots := 0, locals := 23 }).room s m ([.ref (A 2), .ref (A 1), .int x2] : List Value).toArray below meth c H locs 0 0 (kb_Qv D kcl (tyC G) (wC A G M0) (wC A G M') sz below ([.ref (A 2), .ref (A 1), .int x2] : List Value).toArray s) (F0 m 0 ls []) := by
    intro n0
    induction n0 with
    | zero =>
      intro u2 M H locs ls h
      cases h
    | succ n0 ih =>
      have ih0 := ih
      have loop_44 : ∀ (u2 : Int32) (M : Nat → Nat → Int32) (H : Heap) (locs : List Loc) (ls : Array Slot), h_S_takeBack_44 (fun y0 N => h_S_takeBack_0 n0 y0 N) u2 M = some (r, M') → kb_K D kcl (tyC G) (wC A G M) s (va_A (wC A G M0) sz) H locs → lv_has ls 3 [(0, .ref (A 2)), (1, .ref (A 1)), (2, .int u2)] → W p l e (headSpec (Cond.code y_S_takeBack b_S_takeBack 3 none :: wsC) { frames := 1, cells := 0, slots := 0, locals := 23 }).room s m ([.ref (A 2), .ref (A 1), .int x2] : List Value).toArray below meth c H locs 0 0 (kb_Qv D kcl (tyC G) (wC A G M0) (wC A G M') sz below ([.ref (A 2), .ref (A 1), .int x2] : List Value).toArray s) (F0 m 44 ls []) := by
        intro u2 M H locs ls h hw hl
        rw [h_S_takeBack_44] at h
        refine lv_aload_n hx hb d_S_takeBack_44 rfl (lv_at hl 1 rfl) ?_
        refine lv_aload_n hx hb d_S_takeBack_45 rfl (lv_at hl 0 rfl) ?_
        refine kb_get (own := "PileLifts$Search") (ref := "PileLifts$Search") (C := R_S) (T := F_S) (N := 10) hx hb htw i_S hown hw 2 (wC_2 A G _) rfl 7 (by decide) (htw _ mC_48) rfl rfl d_S_takeBack_46 ?_
        refine lv_aload_n hx hb d_S_takeBack_49 rfl (lv_at hl 0 rfl) ?_
        refine kb_get (own := "PileLifts$Search") (ref := "PileLifts$Search") (C := R_S) (T := F_S) (N := 10) hx hb htw i_S hown hw 2 (wC_2 A G _) rfl 6 (by decide) (htw _ mC_47) rfl rfl d_S_takeBack_50 ?_
        obtain ⟨v3, ev3, hi, h⟩ := kb_rd_some h
        refine kb_ald hx hb hw 11 7 rfl rfl hi ev3 d_S_takeBack_53 ?_
        refine lv_aload_n hx hb d_S_takeBack_54 rfl (lv_at hl 0 rfl) ?_
        refine kb_get (own := "PileLifts$Search") (ref := "PileLifts$Search") (C := R_S) (T := F_S) (N := 10) hx hb htw i_S hown hw 2 (wC_2 A G _) rfl 8 (by decide) (htw _ mC_49) rfl rfl d_S_takeBack_55 ?_
        refine lv_aload_n hx hb d_S_takeBack_58 rfl (lv_at hl 0 rfl) ?_
        refine kb_get (own := "PileLifts$Search") (ref := "PileLifts$Search") (C := R_S) (T := F_S) (N := 10) hx hb htw i_S hown hw 2 (wC_2 A G _) rfl 6 (by decide) (htw _ mC_47) rfl rfl d_S_takeBack_59 ?_
        obtain ⟨v4, ev4, hi, h⟩ := kb_rd_some h
        refine kb_ald hx hb hw 12 8 rfl rfl hi ev4 d_S_takeBack_62 ?_
        obtain ⟨r5, M6, hc, h⟩ := kb_cl_some h
        refine kb_callv0 (va_runVN (As := [.int v3, .int v4]) (rest := []) ⟨hx, hb, hml, hown, htw⟩ (c_Y_layOn l D A G v3 v4 M _ _ H.size hc) ⟨(va_cnB 2 htw (wsC_self mC_131) rfl rfl rfl (nm_S_118 hN) (htw _ mC_1) q_Y_layOn ⟨by show 0 + 1 ≤ 1; omega, by show 8 + (4 + 11) + 0 ≤ 23; omega⟩), htw _ mC_130, htw _ mC_242⟩ (kb_preV nnC_warm nnC_same hw hN 1 (wC_1 A G _) rfl) rfl rfl hl.1 rfl (lv_room (Nat.le_of_ble_eq_true rfl)) d_S_takeBack_63 ⟨Nat.zero_le _, Nat.zero_le _⟩) hw (fun H locs hw => ?_)
        refine lv_goto (tgt := 0) hx hb d_S_takeBack_66 (by decide) ?_
        exact ih0 u2 M6 _ _ _ h hw (lv_sub hl [0, 1, 2] rfl)
      intro u2 M H locs ls h hw hl
      rw [h_S_takeBack_0] at h
      refine lv_aload_n hx hb d_S_takeBack_0 rfl (lv_at hl 0 rfl) ?_
      refine kb_get (own := "PileLifts$Search") (ref := "PileLifts$Search") (C := R_S) (T := F_S) (N := 10) hx hb htw i_S hown hw 2 (wC_2 A G _) rfl 6 (by decide) (htw _ mC_47) rfl rfl d_S_takeBack_1 ?_
      refine lv_iload_n hx hb d_S_takeBack_4 rfl (lv_at hl 2 rfl) ?_
      refine lv_icmp_le (tgt := 69) hx hb d_S_takeBack_5 (by decide) (fun c => ?_) (fun c => ?_)
      · have h := kb_ip c h
        obtain ⟨-, rfl⟩ := kb_rt h
        exact kb_vret hx hb hr hw hlocks d_S_takeBack_69
      · have h := kb_in c h
        refine lv_aload_n hx hb d_S_takeBack_8 rfl (lv_at hl 0 rfl) ?_
        refine lv_dup hx hb d_S_takeBack_9 rfl ?_
        refine kb_get (own := "PileLifts$Search") (ref := "PileLifts$Search") (C := R_S) (T := F_S) (N := 10) hx hb htw i_S hown hw 2 (wC_2 A G _) rfl 6 (by decide) (htw _ mC_47) rfl rfl d_S_takeBack_10 ?_
        refine lv_iconst (v := 1) hx hb d_S_takeBack_13 (by decide) ?_
        refine lv_isub hx hb d_S_takeBack_14 ?_
        obtain ⟨M1, eM1, h⟩ := kb_st_some h
        refine kb_put (ws' := (wC A G M1)) (own := "PileLifts$Search") (ref := "PileLifts$Search") (C := R_S) (T := F_S) (N := 10) (ty := .int) hx hb htw i_S t_S t_S_ok n_S hown hw 2 (wC_2 A G _) rfl 6 (by decide) (htw _ mC_47) rfl rfl (by decide +kernel) rfl rfl (Nat.le_of_ble_eq_true rfl) d_S_takeBack_15 (by rw [eM1]; rfl) (fun H locs hw => ?_)
        refine lv_aload_n hx hb d_S_takeBack_18 rfl (lv_at hl 0 rfl) ?_
        refine kb_get (own := "PileLifts$Search") (ref := "PileLifts$Search") (C := R_S) (T := F_S) (N := 10) hx hb htw i_S hown hw 2 (wC_2 A G _) rfl 9 (by decide) (htw _ mC_50) rfl rfl d_S_takeBack_19 ?_
        refine lv_aload_n hx hb d_S_takeBack_22 rfl (lv_at hl 0 rfl) ?_
        refine kb_get (own := "PileLifts$Search") (ref := "PileLifts$Search") (C := R_S) (T := F_S) (N := 10) hx hb htw i_S hown hw 2 (wC_2 A G _) rfl 6 (by decide) (htw _ mC_47) rfl rfl d_S_takeBack_23 ?_
        obtain ⟨v2, ev2, hi, h⟩ := kb_rd_some h
        refine kb_ald hx hb hw 13 9 rfl rfl hi ev2 d_S_takeBack_26 ?_
        refine lv_iconst (v := -1) hx hb d_S_takeBack_27 (by decide) ?_
        refine lv_icmp_eq (tgt := 44) hx hb d_S_takeBack_28 (by decide) (fun c => ?_) (fun c => ?_)
        · have h := kb_ip c h
          exact loop_44 u2 M1 _ _ _ h hw (lv_sub hl [0, 1, 2] rfl)
        · have h := kb_in c h
          refine lv_aload_n hx hb d_S_takeBack_31 rfl (lv_at hl 1 rfl) ?_
          refine lv_aload_n hx hb d_S_takeBack_32 rfl (lv_at hl 0 rfl) ?_
          refine kb_get (own := "PileLifts$Search") (ref := "PileLifts$Search") (C := R_S) (T := F_S) (N := 10) hx hb htw i_S hown hw 2 (wC_2 A G _) rfl 7 (by decide) (htw _ mC_48) rfl rfl d_S_takeBack_33 ?_
          refine lv_aload_n hx hb d_S_takeBack_36 rfl (lv_at hl 0 rfl) ?_
          refine kb_get (own := "PileLifts$Search") (ref := "PileLifts$Search") (C := R_S) (T := F_S) (N := 10) hx hb htw i_S hown hw 2 (wC_2 A G _) rfl 6 (by decide) (htw _ mC_47) rfl rfl d_S_takeBack_37 ?_
          obtain ⟨v7, ev7, hi, h⟩ := kb_rd_some h
          refine kb_ald hx hb hw 11 7 rfl rfl hi ev7 d_S_takeBack_40 ?_
          obtain ⟨r8, M9, hc, h⟩ := kb_cl_some h
          refine kb_callv0 (va_runVN (As := [.int v7]) (rest := []) ⟨hx, hb, hml, hown, htw⟩ (c_Y_takeOff l D A G v7 M1 _ _ H.size hc) ⟨(va_cnB 1 htw (wsC_self mC_166) rfl rfl rfl (nm_S_114 hN) (htw _ mC_1) q_Y_takeOff ⟨by show 0 + 1 ≤ 1; omega, by show 8 + (3 + 11) + 0 ≤ 23; omega⟩), htw _ mC_165, htw _ mC_251⟩ (kb_preV nnC_warm nnC_same hw hN 1 (wC_1 A G _) rfl) rfl rfl hl.1 rfl (lv_room (Nat.le_of_ble_eq_true rfl)) d_S_takeBack_41 ⟨Nat.zero_le _, Nat.zero_le _⟩) hw (fun H locs hw => ?_)
          exact loop_44 u2 M9 _ _ _ h hw (lv_sub hl [0, 1, 2] rfl)
  have hl := lv_entry ([.ref (A 2), .ref (A 1), .int x2]) (n := 3) (Nat.le_of_ble_eq_true rfl)
  rw [lg_entry_eq]
  generalize (lg_sl ([.ref (A 2), .ref (A 1), .int x2]) ++ List.replicate (3 - (lg_sl ([.ref (A 2), .ref (A 1), .int x2])).length) Slot.unset).toArray = ls at hl ⊢
  have hl : lv_has ls 3 [(0, .ref (A 2)), (1, .ref (A 1)), (2, .int x2)] := hl
  rw [f_S_takeBack] at h
  exact loop_0 kb_F x2 M0 _ _ _ h hw (lv_sub hl [0, 1, 2] rfl)
def f_S_tryOne (gg : Int32 → Int32 → (Nat → Nat → Int32) → Option (Int32 × (Nat → Nat → Int32))) (x2 x3 x4 x5 : Int32) (M0 : Nat → Nat → Int32) : Option (Int32 × (Nat → Nat → Int32)) := kb_rd (M0 9) 10 x2 (fun v1 => kb_cl (f_S_note x2 v1 x3 M0) (fun r2 M3 => kb_cl (f_Y_relift x2 x3 M3) (fun r4 M5 => kb_cl (gg x4 x5 M5) (fun r6 M7 => (if r6 = (0 : Int32) then kb_cl (f_S_takeBack (M0 2 6) M7) (fun r8 M9 => some ((0 : Int32), M9)) else some ((1 : Int32), M7))))))
set_option maxHeartbeats 4000000 in
set_option maxRecDepth 100000 in
theorem c_S_tryOne (l : Launch) (D : va_G) (A : Nat → Nat) (G : Nat → ClassId) (fr lo : Nat) (gg : Int32 → Int32 → (Nat → Nat → Int32) → Option (Int32 × (Nat → Nat → Int32))) (hg : ∀ (x2 x3 : Int32) (M0 : Nat → Nat → Int32) (r : Int32) (M' : Nat → Nat → Int32) (sz : Nat), gg x2 x3 M0 = some (r, M') → kb_Ci l y_S_goOn (Cond.code y_S_goOn b_S_goOn 5 (some .boolean) :: wsC) { frames := fr, cells := 0, slots := 0, locals := lo } [.ref (A 2), .ref (A 1), .int x2, .int x3] D kcl (tyC G) (wC A G M0) (wC A G M') nnC sz r) (x2 x3 x4 x5 : Int32) (M0 : Nat → Nat → Int32) (r : Int32) (M' : Nat → Nat → Int32) (sz : Nat) (h : f_S_tryOne gg x2 x3 x4 x5 M0 = some (r, M')) : kb_Ci l y_S_tryOne (Cond.code y_S_tryOne b_S_tryOne 7 (some .boolean) :: wsC) { frames := fr + 8, cells := 0, slots := 0, locals := lo + 160 } [.ref (A 2), .ref (A 1), .int x2, .int x3, .int x4, .int x5] D kcl (tyC G) (wC A G M0) (wC A G M') nnC sz r := by
  refine Met.ofW (cc := b_S_tryOne) (maxL := 7) (ret := (some .boolean)) (by decide) rfl ?_
  intro p e s m args below meth c s₁ B hml hv
  obtain ⟨rfl, hpre⟩ := hv
  obtain ⟨hw, hN⟩ := kb_enter hpre
  have hx := B.exec
  have hb := B.bytes
  have hr := B.returns
  have hts := atoms_spec (ws := (Cond.code y_S_tryOne b_S_tryOne 7 (some .boolean) :: wsC)) B.pre
  have htw : ∀ w ∈ wsC, w.before ([.ref (A 2), .ref (A 1), .int x2, .int x3, .int x4, .int x5] : List Value).toArray s = true := fun w h => hts w (List.mem_cons_of_mem _ h)
  have hown : s.vm.findClass "PileLifts$Search" = some m.cls := findClass_of_methodNamed B.named
  have hlocks := B.notSynchronized
  have hl := lv_entry ([.ref (A 2), .ref (A 1), .int x2, .int x3, .int x4, .int x5]) (n := 7) (Nat.le_of_ble_eq_true rfl)
  rw [lg_entry_eq]
  generalize (lg_sl ([.ref (A 2), .ref (A 1), .int x2, .int x3, .int x4, .int x5]) ++ List.replicate (7 - (lg_sl ([.ref (A 2), .ref (A 1), .int x2, .int x3, .int x4, .int x5])).length) Slot.unset).toArray = ls at hl ⊢
  have hl : lv_has ls 7 [(0, .ref (A 2)), (1, .ref (A 1)), (2, .int x2), (3, .int x3), (4, .int x4), (5, .int x5)] := hl
  rw [f_S_tryOne] at h
  refine lv_aload_n hx hb d_S_tryOne_0 rfl (lv_at hl 0 rfl) ?_
  refine kb_get (own := "PileLifts$Search") (ref := "PileLifts$Search") (C := R_S) (T := F_S) (N := 10) hx hb htw i_S hown hw 2 (wC_2 A G _) rfl 6 (by decide) (htw _ mC_47) rfl rfl d_S_tryOne_1 ?_
  refine lv_istore (lv' := [(6, .int (M0 2 6)), (0, .ref (A 2)), (1, .ref (A 1)), (2, .int x2), (3, .int x3), (4, .int x4), (5, .int x5)]) hx hb d_S_tryOne_4 hl (by decide) rfl (fun ls hl => ?_)
  refine lv_aload_n hx hb d_S_tryOne_6 rfl (lv_at hl 1 rfl) ?_
  refine lv_iload_n hx hb d_S_tryOne_7 rfl (lv_at hl 3 rfl) ?_
  refine lv_aload_n hx hb d_S_tryOne_8 rfl (lv_at hl 2 rfl) ?_
  refine kb_getN (own := "PileLifts$Search") (ref := "PileLifts$Yard") (C := R_Y) (T := F_Y) (N := 10) hx hb htw i_Y hown hw 1 (wC_1 A G _) rfl 8 (by decide) (va_Nw.use rfl (nf_S_100 hN)) rfl rfl d_S_tryOne_9 ?_
  refine lv_iload_n hx hb d_S_tryOne_12 rfl (lv_at hl 3 rfl) ?_
  obtain ⟨v1, ev1, hi, h⟩ := kb_rd_some h
  refine kb_ald hx hb hw 9 5 rfl rfl hi ev1 d_S_tryOne_13 ?_
  refine lv_iload_n hx hb d_S_tryOne_14 rfl (lv_at hl 4 rfl) ?_
  obtain ⟨r2, M3, hc, h⟩ := kb_cl_some h
  refine kb_callv0 (va_runV (As := [.int x2, .int v1, .int x3]) (rest := []) ⟨hx, hb, hml, hown, htw⟩ (c_S_note l D A G x2 v1 x3 M0 _ _ s.heap.size hc) ⟨(callB_of 3 htw (wsC_self mC_164) rfl rfl rfl (htw _ mC_2) (htw _ mC_162) q_S_note ⟨by show 0 + 1 ≤ fr + 8; omega, by show 8 + (4 + 11) + 0 ≤ lo + 160; omega⟩), htw _ mC_163, htw _ mC_250⟩ (kb_preV nnC_warm nnC_same hw hN 2 (wC_2 A G _) rfl) rfl rfl hl.1 rfl (lv_room (Nat.le_of_ble_eq_true rfl)) d_S_tryOne_15 ⟨Nat.zero_le _, Nat.zero_le _⟩) hw (fun H locs hw => ?_)
  refine lv_aload_n hx hb d_S_tryOne_18 rfl (lv_at hl 2 rfl) ?_
  refine lv_iload_n hx hb d_S_tryOne_19 rfl (lv_at hl 3 rfl) ?_
  refine lv_iload_n hx hb d_S_tryOne_20 rfl (lv_at hl 4 rfl) ?_
  obtain ⟨r4, M5, hc, h⟩ := kb_cl_some h
  refine kb_callv0 (va_runVN (As := [.int x2, .int x3]) (rest := []) ⟨hx, hb, hml, hown, htw⟩ (c_Y_relift l D A G x2 x3 M3 _ _ H.size hc) ⟨(va_cnB 2 htw (wsC_self mC_176) rfl rfl rfl (nm_S_107 hN) (htw _ mC_1) q_Y_relift ⟨by show 1 + 1 ≤ fr + 8; omega, by show 8 + (3 + 11) + 23 ≤ lo + 160; omega⟩), htw _ mC_175, htw _ mC_255⟩ (kb_preV nnC_warm nnC_same hw hN 1 (wC_1 A G _) rfl) rfl rfl hl.1 rfl (lv_room (Nat.le_of_ble_eq_true rfl)) d_S_tryOne_21 ⟨Nat.zero_le _, Nat.zero_le _⟩) hw (fun H locs hw => ?_)
  refine lv_aload_n hx hb d_S_tryOne_24 rfl (lv_at hl 1 rfl) ?_
  refine lv_aload_n hx hb d_S_tryOne_25 rfl (lv_at hl 2 rfl) ?_
  refine lv_iload hx hb d_S_tryOne_26 (lv_at hl 5 rfl) ?_
  refine lv_iload hx hb d_S_tryOne_28 (lv_at hl 6 rfl) ?_
  obtain ⟨r6, M7, hc, h⟩ := kb_cl_some h
  refine kb_calli0 (va_runV (As := [.ref (A 1), .int x4, .int x5]) (rest := []) ⟨hx, hb, hml, hown, htw⟩ (hg x4 x5 M5 _ _ H.size hc) ⟨(callB_of 3 htw (wsC_self mC_154) rfl rfl rfl (htw _ mC_2) (htw _ mC_152) q_S_goOn ⟨by show fr + 1 ≤ fr + 8; omega, by show 8 + (5 + 11) + lo ≤ lo + 160; omega⟩), htw _ mC_153, htw _ mC_246⟩ (kb_preV nnC_warm nnC_same hw hN 2 (wC_2 A G _) rfl) rfl rfl hl.1 rfl (lv_room (Nat.le_of_ble_eq_true rfl)) d_S_tryOne_30 ⟨Nat.zero_le _, Nat.zero_le _⟩) hw (fun H locs hw => ?_)
  refine lv_if_eq (tgt := 38) hx hb d_S_tryOne_33 (by decide) (fun c => ?_) (fun c => ?_)
  · have h := kb_ip c h
    refine lv_aload_n hx hb d_S_tryOne_38 rfl (lv_at hl 1 rfl) ?_
    refine lv_aload_n hx hb d_S_tryOne_39 rfl (lv_at hl 2 rfl) ?_
    refine lv_iload hx hb d_S_tryOne_40 (lv_at hl 0 rfl) ?_
    obtain ⟨r8, M9, hc, h⟩ := kb_cl_some h
    refine kb_callv0 (va_runV (As := [.ref (A 1), .int (M0 2 6)]) (rest := []) ⟨hx, hb, hml, hown, htw⟩ (c_S_takeBack l D A G (M0 2 6) M7 _ _ H.size hc) ⟨(callB_of 2 htw (wsC_self mC_180) rfl rfl rfl (htw _ mC_2) (htw _ mC_178) q_S_takeBack ⟨by show 1 + 1 ≤ fr + 8; omega, by show 8 + (3 + 11) + 23 ≤ lo + 160; omega⟩), htw _ mC_179, htw _ mC_256⟩ (kb_preV nnC_warm nnC_same hw hN 2 (wC_2 A G _) rfl) rfl rfl hl.1 rfl (lv_room (Nat.le_of_ble_eq_true rfl)) d_S_tryOne_42 ⟨Nat.zero_le _, Nat.zero_le _⟩) hw (fun H locs hw => ?_)
    refine lv_iconst (v := 0) hx hb d_S_tryOne_45 (by decide) ?_
    obtain ⟨rfl, rfl⟩ := kb_rt h
    exact kb_zret hx hb hr hw hlocks (Or.inl rfl) d_S_tryOne_46
  · have h := kb_in c h
    refine lv_iconst (v := 1) hx hb d_S_tryOne_36 (by decide) ?_
    obtain ⟨rfl, rfl⟩ := kb_rt h
    exact kb_zret hx hb hr hw hlocks (Or.inr rfl) d_S_tryOne_37
def h_S_tryFrom_120 (gg : Int32 → Int32 → (Nat → Nat → Int32) → Option (Int32 × (Nat → Nat → Int32))) (k37 : Int32 → Int32 → Int32 → Int32 → Int32 → (Nat → Nat → Int32) → Option (Int32 × (Nat → Nat → Int32))) (u2 u3 u5 u6 u7 w0 w1 : Int32) (M : Nat → Nat → Int32) : Option (Int32 × (Nat → Nat → Int32)) := (if (M 2 5) < ((u3 + (1 : Int32)) + (w1 + w0)) then k37 u2 u3 u5 u6 (u7 + 1) M else kb_cl (f_S_tryOne gg u5 u7 (u3 + (1 : Int32)) (w1 + w0) M) (fun r11 M12 => (if r11 = (0 : Int32) then k37 u2 u3 u5 u6 (u7 + 1) M12 else some ((1 : Int32), M12))))
def h_S_tryFrom_37 (gg : Int32 → Int32 → (Nat → Nat → Int32) → Option (Int32 × (Nat → Nat → Int32))) : Nat → Int32 → Int32 → Int32 → Int32 → Int32 → (Nat → Nat → Int32) → Option (Int32 × (Nat → Nat → Int32))
  | 0, _, _, _, _, _, _ => none
  | n + 1, u2, u3, u5, u6, u7, M => (if (M 1 0) ≤ u7 then some ((0 : Int32), M) else (if (M 2 3) = (0 : Int32) then (if u7 = u2 then h_S_tryFrom_37 gg n u2 u3 u5 u6 (u7 + 1) M else kb_rd (M 7) 10 u5 (fun v5 => kb_cl (f_Y_takes u7 v5 M) (fun r6 M7 => (if r6 = (0 : Int32) then h_S_tryFrom_37 gg n u2 u3 u5 u6 (u7 + 1) M7 else (if (M7 2 4) = (0 : Int32) then kb_st (kb_up M7 2 (upd (M7 2) 3 (1 : Int32))) (fun M13 => some ((0 : Int32), M13)) else kb_st (kb_up M7 2 (upd (M7 2) 4 ((M7 2 4) - (1 : Int32)))) (fun M8 => kb_cl (f_Y_wouldBlockOn u5 u7 M8) (fun r9 M10 => (if r9 = (0 : Int32) then h_S_tryFrom_120 gg (fun y0 y1 y2 y3 y4 N => h_S_tryFrom_37 gg n y0 y1 y2 y3 y4 N) u2 u3 u5 u6 u7 (0 : Int32) u6 M10 else h_S_tryFrom_120 gg (fun y0 y1 y2 y3 y4 N => h_S_tryFrom_37 gg n y0 y1 y2 y3 y4 N) u2 u3 u5 u6 u7 (1 : Int32) u6 M10)))))))) else some ((0 : Int32), M)))
def f_S_tryFrom (gg : Int32 → Int32 → (Nat → Nat → Int32) → Option (Int32 × (Nat → Nat → Int32))) (x2 x3 x4 : Int32) (M0 : Nat → Nat → Int32) : Option (Int32 × (Nat → Nat → Int32)) := kb_cl (f_Y_topOf x2 M0) (fun r1 M2 => (if r1 = (-1 : Int32) then some ((0 : Int32), M2) else kb_cl (f_Y_isBlocking r1 M2) (fun r3 M4 => (if r3 = (0 : Int32) then h_S_tryFrom_37 gg kb_F x2 x3 r1 (x4 - (0 : Int32)) (0 : Int32) M4 else h_S_tryFrom_37 gg kb_F x2 x3 r1 (x4 - (1 : Int32)) (0 : Int32) M4))))
set_option maxHeartbeats 4000000 in
set_option maxRecDepth 100000 in
theorem c_S_tryFrom (l : Launch) (D : va_G) (A : Nat → Nat) (G : Nat → ClassId) (fr lo : Nat) (gg : Int32 → Int32 → (Nat → Nat → Int32) → Option (Int32 × (Nat → Nat → Int32))) (hg : ∀ (x2 x3 : Int32) (M0 : Nat → Nat → Int32) (r : Int32) (M' : Nat → Nat → Int32) (sz : Nat), gg x2 x3 M0 = some (r, M') → kb_Ci l y_S_goOn (Cond.code y_S_goOn b_S_goOn 5 (some .boolean) :: wsC) { frames := fr, cells := 0, slots := 0, locals := lo } [.ref (A 2), .ref (A 1), .int x2, .int x3] D kcl (tyC G) (wC A G M0) (wC A G M') nnC sz r) (x2 x3 x4 : Int32) (M0 : Nat → Nat → Int32) (r : Int32) (M' : Nat → Nat → Int32) (sz : Nat) (h : f_S_tryFrom gg x2 x3 x4 M0 = some (r, M')) : kb_Ci l y_S_tryFrom (Cond.code y_S_tryFrom b_S_tryFrom 9 (some .boolean) :: wsC) { frames := fr + 16, cells := 0, slots := 0, locals := lo + 320 } [.ref (A 2), .ref (A 1), .int x2, .int x3, .int x4] D kcl (tyC G) (wC A G M0) (wC A G M') nnC sz r := by
  refine Met.ofW (cc := b_S_tryFrom) (maxL := 9) (ret := (some .boolean)) (by decide) rfl ?_
  intro p e s m args below meth c s₁ B hml hv
  obtain ⟨rfl, hpre⟩ := hv
  obtain ⟨hw, hN⟩ := kb_enter hpre
  have hx := B.exec
  have hb := B.bytes
  have hr := B.returns
  have hts := atoms_spec (ws := (Cond.code y_S_tryFrom b_S_tryFrom 9 (some .boolean) :: wsC)) B.pre
  have htw : ∀ w ∈ wsC, w.before ([.ref (A 2), .ref (A 1), .int x2, .int x3, .int x4] : List Value).toArray s = true := fun w h => hts w (List.mem_cons_of_mem _ h)
  have hown : s.vm.findClass "PileLifts$Search" = some m.cls := findClass_of_methodNamed B.named
  have hlocks := B.notSynchronized
  have loop_37 : ∀ (n37 : Nat) (u2 u3 u5 u6 u7 : Int32) (M : Nat → Nat → Int32) (H : Heap) (locs : List Loc) (ls : Array Slot), h_S_tryFrom_37 gg n37 u2 u3 u5 u6 u7 M = some (r, M') → kb_K D kcl (tyC G) (wC A G M) s (va_A (wC A G M0) sz) H locs → lv_has ls 9 [(0, .ref (A 2)), (1, .ref (A 1)), (2, .int u2), (3, .int u3), (5, .int u5), (6, .int u6), (7, .int u7)] → W p l e (headSpec (Cond.code y_S_tryFrom b_S_tryFrom 9 (some .boolean) :: wsC) { frames := fr + 16, cells := 0, slots := 0, locals := lo + 320 }).room s m ([.ref (A 2), .ref (A 1), .int x2, .int x3, .int x4] : List Value).toArray below meth c H locs 0 0 (kb_Qi D kcl (tyC G) (wC A G M0) (wC A G M') sz r below ([.ref (A 2), .ref (A 1), .int x2, .int x3, .int x4] : List Value).toArray s) (F0 m 37 ls []) := by
    intro n37
    induction n37 with
    | zero =>
      intro u2 u3 u5 u6 u7 M H locs ls h
      cases h
    | succ n37 ih =>
      have ih37 := ih
      have loop_120 : ∀ (u2 u3 u5 u6 u7 w0 w1 : Int32) (M : Nat → Nat → Int32) (H : Heap) (locs : List Loc) (ls : Array Slot), h_S_tryFrom_120 gg (fun y0 y1 y2 y3 y4 N => h_S_tryFrom_37 gg n37 y0 y1 y2 y3 y4 N) u2 u3 u5 u6 u7 w0 w1 M = some (r, M') → kb_K D kcl (tyC G) (wC A G M) s (va_A (wC A G M0) sz) H locs → lv_has ls 9 [(0, .ref (A 2)), (1, .ref (A 1)), (2, .int u2), (3, .int u3), (5, .int u5), (6, .int u6), (7, .int u7)] → W p l e (headSpec (Cond.code y_S_tryFrom b_S_tryFrom 9 (some .boolean) :: wsC) { frames := fr + 16, cells := 0, slots := 0, locals := lo + 320 }).room s m ([.ref (A 2), .ref (A 1), .int x2, .int x3, .int x4] : List Value).toArray below meth c H locs 0 0 (kb_Qi D kcl (tyC G) (wC A G M0) (wC A G M') sz r below ([.ref (A 2), .ref (A 1), .int x2, .int x3, .int x4] : List Value).toArray s) (F0 m 120 ls [.int w0, .int w1]) := by
        intro u2 u3 u5 u6 u7 w0 w1 M H locs ls h hw hl
        rw [h_S_tryFrom_120] at h
        refine lv_iadd hx hb d_S_tryFrom_120 ?_
        refine lv_istore (lv' := [(8, .int (w1 + w0)), (0, .ref (A 2)), (1, .ref (A 1)), (2, .int u2), (3, .int u3), (5, .int u5), (6, .int u6), (7, .int u7)]) hx hb d_S_tryFrom_121 hl (by decide) rfl (fun ls hl => ?_)
        refine lv_iload_n hx hb d_S_tryFrom_123 rfl (lv_at hl 4 rfl) ?_
        refine lv_iconst (v := 1) hx hb d_S_tryFrom_124 (by decide) ?_
        refine lv_iadd hx hb d_S_tryFrom_125 ?_
        refine lv_iload hx hb d_S_tryFrom_126 (lv_at hl 0 rfl) ?_
        refine lv_iadd hx hb d_S_tryFrom_128 ?_
        refine lv_aload_n hx hb d_S_tryFrom_129 rfl (lv_at hl 1 rfl) ?_
        refine kb_get (own := "PileLifts$Search") (ref := "PileLifts$Search") (C := R_S) (T := F_S) (N := 10) hx hb htw i_S hown hw 2 (wC_2 A G _) rfl 5 (by decide) (htw _ mC_46) rfl rfl d_S_tryFrom_130 ?_
        refine lv_icmp_gt (tgt := 155) hx hb d_S_tryFrom_133 (by decide) (fun c => ?_) (fun c => ?_)
        · have h := kb_ip c h
          refine lv_iinc (v := (u7 + 1)) (lv' := [(7, .int (u7 + 1)), (8, .int (w1 + w0)), (0, .ref (A 2)), (1, .ref (A 1)), (2, .int u2), (3, .int u3), (5, .int u5), (6, .int u6)]) hx hb d_S_tryFrom_155 hl (k := 7) rfl rfl (by decide) rfl (fun ls hl => ?_)
          refine lv_goto (tgt := 37) hx hb d_S_tryFrom_158 (by decide) ?_
          exact ih37 u2 u3 u5 u6 (u7 + 1) M _ _ _ h hw (lv_sub hl [2, 3, 4, 5, 6, 7, 0] rfl)
        · have h := kb_in c h
          refine lv_aload_n hx hb d_S_tryFrom_136 rfl (lv_at hl 1 rfl) ?_
          refine lv_aload_n hx hb d_S_tryFrom_137 rfl (lv_at hl 2 rfl) ?_
          refine lv_iload hx hb d_S_tryFrom_138 (lv_at hl 5 rfl) ?_
          refine lv_iload hx hb d_S_tryFrom_140 (lv_at hl 7 rfl) ?_
          refine lv_iload_n hx hb d_S_tryFrom_142 rfl (lv_at hl 4 rfl) ?_
          refine lv_iconst (v := 1) hx hb d_S_tryFrom_143 (by decide) ?_
          refine lv_iadd hx hb d_S_tryFrom_144 ?_
          refine lv_iload hx hb d_S_tryFrom_145 (lv_at hl 0 rfl) ?_
          obtain ⟨r11, M12, hc, h⟩ := kb_cl_some h
          refine kb_calli0 (va_runV (As := [.ref (A 1), .int u5, .int u7, .int (u3 + (1 : Int32)), .int (w1 + w0)]) (rest := []) ⟨hx, hb, hml, hown, htw⟩ (c_S_tryOne l D A G fr lo gg hg u5 u7 (u3 + (1 : Int32)) (w1 + w0) M _ _ H.size hc) ⟨(callB_of 5 htw (wsC_self mC_174) rfl rfl rfl (htw _ mC_2) (htw _ mC_172) q_S_tryOne ⟨by show (fr + 8) + 1 ≤ fr + 16; omega, by show 8 + (7 + 11) + (lo + 160) ≤ lo + 320; omega⟩), htw _ mC_173, htw _ mC_254⟩ (kb_preV nnC_warm nnC_same hw hN 2 (wC_2 A G _) rfl) rfl rfl hl.1 rfl (lv_room (Nat.le_of_ble_eq_true rfl)) d_S_tryFrom_147 ⟨Nat.zero_le _, Nat.zero_le _⟩) hw (fun H locs hw => ?_)
          refine lv_if_eq (tgt := 155) hx hb d_S_tryFrom_150 (by decide) (fun c => ?_) (fun c => ?_)
          · have h := kb_ip c h
            refine lv_iinc (v := (u7 + 1)) (lv' := [(7, .int (u7 + 1)), (8, .int (w1 + w0)), (0, .ref (A 2)), (1, .ref (A 1)), (2, .int u2), (3, .int u3), (5, .int u5), (6, .int u6)]) hx hb d_S_tryFrom_155 hl (k := 7) rfl rfl (by decide) rfl (fun ls hl => ?_)
            refine lv_goto (tgt := 37) hx hb d_S_tryFrom_158 (by decide) ?_
            exact ih37 u2 u3 u5 u6 (u7 + 1) M12 _ _ _ h hw (lv_sub hl [2, 3, 4, 5, 6, 7, 0] rfl)
          · have h := kb_in c h
            refine lv_iconst (v := 1) hx hb d_S_tryFrom_153 (by decide) ?_
            obtain ⟨rfl, rfl⟩ := kb_rt h
            exact kb_zret hx hb hr hw hlocks (Or.inr rfl) d_S_tryFrom_154
      intro u2 u3 u5 u6 u7 M H locs ls h hw hl
      rw [h_S_tryFrom_37] at h
      refine lv_iload hx hb d_S_tryFrom_37 (lv_at hl 6 rfl) ?_
      refine lv_aload_n hx hb d_S_tryFrom_39 rfl (lv_at hl 1 rfl) ?_
      refine kb_getN (own := "PileLifts$Search") (ref := "PileLifts$Yard") (C := R_Y) (T := F_Y) (N := 10) hx hb htw i_Y hown hw 1 (wC_1 A G _) rfl 0 (by decide) (va_Nw.use rfl (nf_S_71 hN)) rfl rfl d_S_tryFrom_40 ?_
      refine lv_icmp_ge (tgt := 161) hx hb d_S_tryFrom_43 (by decide) (fun c => ?_) (fun c => ?_)
      · have h := kb_ip c h
        refine lv_iconst (v := 0) hx hb d_S_tryFrom_161 (by decide) ?_
        obtain ⟨rfl, rfl⟩ := kb_rt h
        exact kb_zret hx hb hr hw hlocks (Or.inl rfl) d_S_tryFrom_162
      · have h := kb_in c h
        refine lv_aload_n hx hb d_S_tryFrom_46 rfl (lv_at hl 0 rfl) ?_
        refine kb_get (own := "PileLifts$Search") (ref := "PileLifts$Search") (C := R_S) (T := F_S) (N := 10) hx hb htw i_S hown hw 2 (wC_2 A G _) rfl 3 (by decide) (htw _ mC_44) rfl rfl d_S_tryFrom_47 ?_
        refine lv_if_ne (tgt := 161) hx hb d_S_tryFrom_50 (by decide) (fun c => ?_) (fun c => ?_)
        · have h := kb_in c h
          refine lv_iconst (v := 0) hx hb d_S_tryFrom_161 (by decide) ?_
          obtain ⟨rfl, rfl⟩ := kb_rt h
          exact kb_zret hx hb hr hw hlocks (Or.inl rfl) d_S_tryFrom_162
        · have h := kb_ip c h
          refine lv_iload hx hb d_S_tryFrom_53 (lv_at hl 6 rfl) ?_
          refine lv_iload_n hx hb d_S_tryFrom_55 rfl (lv_at hl 2 rfl) ?_
          refine lv_icmp_eq (tgt := 155) hx hb d_S_tryFrom_56 (by decide) (fun c => ?_) (fun c => ?_)
          · have h := kb_ip c h
            refine lv_iinc (v := (u7 + 1)) (lv' := [(7, .int (u7 + 1)), (0, .ref (A 2)), (1, .ref (A 1)), (2, .int u2), (3, .int u3), (5, .int u5), (6, .int u6)]) hx hb d_S_tryFrom_155 hl (k := 6) rfl rfl (by decide) rfl (fun ls hl => ?_)
            refine lv_goto (tgt := 37) hx hb d_S_tryFrom_158 (by decide) ?_
            exact ih u2 u3 u5 u6 (u7 + 1) M _ _ _ h hw (lv_sub hl [1, 2, 3, 4, 5, 6, 0] rfl)
          · have h := kb_in c h
            refine lv_aload_n hx hb d_S_tryFrom_59 rfl (lv_at hl 1 rfl) ?_
            refine lv_iload hx hb d_S_tryFrom_60 (lv_at hl 6 rfl) ?_
            refine lv_aload_n hx hb d_S_tryFrom_62 rfl (lv_at hl 1 rfl) ?_
            refine kb_getN (own := "PileLifts$Search") (ref := "PileLifts$Yard") (C := R_Y) (T := F_Y) (N := 10) hx hb htw i_Y hown hw 1 (wC_1 A G _) rfl 6 (by decide) (va_Nw.use rfl (nf_S_86 hN)) rfl rfl d_S_tryFrom_63 ?_
            refine lv_iload hx hb d_S_tryFrom_66 (lv_at hl 4 rfl) ?_
            obtain ⟨v5, ev5, hi, h⟩ := kb_rd_some h
            refine kb_ald hx hb hw 7 3 rfl rfl hi ev5 d_S_tryFrom_68 ?_
            obtain ⟨r6, M7, hc, h⟩ := kb_cl_some h
            refine kb_calli0 (va_runVN (As := [.int u7, .int v5]) (rest := []) ⟨hx, hb, hml, hown, htw⟩ (c_Y_takes l D A G u7 v5 M _ _ H.size hc) ⟨(va_cnB 2 htw (wsC_self mC_121) rfl rfl rfl (nm_S_89 hN) (htw _ mC_1) q_Y_takes ⟨by show 2 + 1 ≤ fr + 16; omega, by show 8 + (4 + 11) + 43 ≤ lo + 320; omega⟩), htw _ mC_120, htw _ mC_239⟩ (kb_preV nnC_warm nnC_same hw hN 1 (wC_1 A G _) rfl) rfl rfl hl.1 rfl (lv_room (Nat.le_of_ble_eq_true rfl)) d_S_tryFrom_69 ⟨Nat.zero_le _, Nat.zero_le _⟩) hw (fun H locs hw => ?_)
            refine lv_if_ne (tgt := 78) hx hb d_S_tryFrom_72 (by decide) (fun c => ?_) (fun c => ?_)
            · have h := kb_in c h
              refine lv_aload_n hx hb d_S_tryFrom_78 rfl (lv_at hl 0 rfl) ?_
              refine kb_get (own := "PileLifts$Search") (ref := "PileLifts$Search") (C := R_S) (T := F_S) (N := 10) hx hb htw i_S hown hw 2 (wC_2 A G _) rfl 4 (by decide) (htw _ mC_45) rfl rfl d_S_tryFrom_79 ?_
              refine lv_if_ne (tgt := 92) hx hb d_S_tryFrom_82 (by decide) (fun c => ?_) (fun c => ?_)
              · have h := kb_in c h
                refine lv_aload_n hx hb d_S_tryFrom_92 rfl (lv_at hl 0 rfl) ?_
                refine lv_dup hx hb d_S_tryFrom_93 rfl ?_
                refine kb_get (own := "PileLifts$Search") (ref := "PileLifts$Search") (C := R_S) (T := F_S) (N := 10) hx hb htw i_S hown hw 2 (wC_2 A G _) rfl 4 (by decide) (htw _ mC_45) rfl rfl d_S_tryFrom_94 ?_
                refine lv_iconst (v := 1) hx hb d_S_tryFrom_97 (by decide) ?_
                refine lv_isub hx hb d_S_tryFrom_98 ?_
                obtain ⟨M8, eM8, h⟩ := kb_st_some h
                refine kb_put (ws' := (wC A G M8)) (own := "PileLifts$Search") (ref := "PileLifts$Search") (C := R_S) (T := F_S) (N := 10) (ty := .int) hx hb htw i_S t_S t_S_ok n_S hown hw 2 (wC_2 A G _) rfl 4 (by decide) (htw _ mC_45) rfl rfl (by decide +kernel) rfl rfl (Nat.le_of_ble_eq_true rfl) d_S_tryFrom_99 (by rw [eM8]; rfl) (fun H locs hw => ?_)
                refine lv_iload hx hb d_S_tryFrom_102 (lv_at hl 5 rfl) ?_
                refine lv_aload_n hx hb d_S_tryFrom_104 rfl (lv_at hl 1 rfl) ?_
                refine lv_iload hx hb d_S_tryFrom_105 (lv_at hl 4 rfl) ?_
                refine lv_iload hx hb d_S_tryFrom_107 (lv_at hl 6 rfl) ?_
                obtain ⟨r9, M10, hc, h⟩ := kb_cl_some h
                refine kb_calli0 (va_runVN (As := [.int u5, .int u7]) (rest := [.int u6]) ⟨hx, hb, hml, hown, htw⟩ (c_Y_wouldBlockOn l D A G u5 u7 M8 _ _ H.size hc) ⟨(va_cnB 2 htw (wsC_self mC_171) rfl rfl rfl (nm_S_93 hN) (htw _ mC_1) q_Y_wouldBlockOn ⟨by show 2 + 1 ≤ fr + 16; omega, by show 8 + (3 + 11) + 47 ≤ lo + 320; omega⟩), htw _ mC_170, htw _ mC_253⟩ (kb_preV nnC_warm nnC_same hw hN 1 (wC_1 A G _) rfl) rfl rfl hl.1 rfl (lv_room (Nat.le_of_ble_eq_true rfl)) d_S_tryFrom_109 ⟨Nat.zero_le _, Nat.zero_le _⟩) hw (fun H locs hw => ?_)
                refine lv_if_eq (tgt := 119) hx hb d_S_tryFrom_112 (by decide) (fun c => ?_) (fun c => ?_)
                · have h := kb_ip c h
                  refine lv_iconst (v := 0) hx hb d_S_tryFrom_119 (by decide) ?_
                  exact loop_120 u2 u3 u5 u6 u7 (0 : Int32) u6 M10 _ _ _ h hw (lv_sub hl [0, 1, 2, 3, 4, 5, 6] rfl)
                · have h := kb_in c h
                  refine lv_iconst (v := 1) hx hb d_S_tryFrom_115 (by decide) ?_
                  refine lv_goto (tgt := 120) hx hb d_S_tryFrom_116 (by decide) ?_
                  exact loop_120 u2 u3 u5 u6 u7 (1 : Int32) u6 M10 _ _ _ h hw (lv_sub hl [0, 1, 2, 3, 4, 5, 6] rfl)
              · have h := kb_ip c h
                refine lv_aload_n hx hb d_S_tryFrom_85 rfl (lv_at hl 0 rfl) ?_
                refine lv_iconst (v := 1) hx hb d_S_tryFrom_86 (by decide) ?_
                obtain ⟨M13, eM13, h⟩ := kb_st_some h
                refine kb_put (ws' := (wC A G M13)) (own := "PileLifts$Search") (ref := "PileLifts$Search") (C := R_S) (T := F_S) (N := 10) (ty := .boolean) hx hb htw i_S t_S t_S_ok n_S hown hw 2 (wC_2 A G _) rfl 3 (by decide) (htw _ mC_44) rfl rfl (by decide +kernel) (kb_nz (Or.inr rfl)) (kb_fz (Or.inr rfl)) (Nat.le_of_ble_eq_true rfl) d_S_tryFrom_87 (by rw [eM13]; rfl) (fun H locs hw => ?_)
                refine lv_iconst (v := 0) hx hb d_S_tryFrom_90 (by decide) ?_
                obtain ⟨rfl, rfl⟩ := kb_rt h
                exact kb_zret hx hb hr hw hlocks (Or.inl rfl) d_S_tryFrom_91
            · have h := kb_ip c h
              refine lv_goto (tgt := 155) hx hb d_S_tryFrom_75 (by decide) ?_
              refine lv_iinc (v := (u7 + 1)) (lv' := [(7, .int (u7 + 1)), (0, .ref (A 2)), (1, .ref (A 1)), (2, .int u2), (3, .int u3), (5, .int u5), (6, .int u6)]) hx hb d_S_tryFrom_155 hl (k := 6) rfl rfl (by decide) rfl (fun ls hl => ?_)
              refine lv_goto (tgt := 37) hx hb d_S_tryFrom_158 (by decide) ?_
              exact ih u2 u3 u5 u6 (u7 + 1) M7 _ _ _ h hw (lv_sub hl [1, 2, 3, 4, 5, 6, 0] rfl)
  have hl := lv_entry ([.ref (A 2), .ref (A 1), .int x2, .int x3, .int x4]) (n := 9) (Nat.le_of_ble_eq_true rfl)
  rw [lg_entry_eq]
  generalize (lg_sl ([.ref (A 2), .ref (A 1), .int x2, .int x3, .int x4]) ++ List.replicate (9 - (lg_sl ([.ref (A 2), .ref (A 1), .int x2, .int x3, .int x4])).length) Slot.unset).toArray = ls at hl ⊢
  have hl : lv_has ls 9 [(0, .ref (A 2)), (1, .ref (A 1)), (2, .int x2), (3, .int x3), (4, .int x4)] := hl
  rw [f_S_tryFrom] at h
  refine lv_aload_n hx hb d_S_tryFrom_0 rfl (lv_at hl 1 rfl) ?_
  refine lv_iload_n hx hb d_S_tryFrom_1 rfl (lv_at hl 2 rfl) ?_
  obtain ⟨r1, M2, hc, h⟩ := kb_cl_some h
  refine kb_calli0 (va_runVN (As := [.int x2]) (rest := []) ⟨hx, hb, hml, hown, htw⟩ (c_Y_topOf l D A G x2 M0 _ _ s.heap.size hc) ⟨(va_cnB 1 htw (wsC_self mC_124) rfl rfl rfl (nm_S_78 hN) (htw _ mC_1) q_Y_topOf ⟨by show 1 + 1 ≤ fr + 16; omega, by show 8 + (2 + 11) + 22 ≤ lo + 320; omega⟩), htw _ mC_123, htw _ mC_240⟩ (kb_preV nnC_warm nnC_same hw hN 1 (wC_1 A G _) rfl) rfl rfl hl.1 rfl (lv_room (Nat.le_of_ble_eq_true rfl)) d_S_tryFrom_2 ⟨Nat.zero_le _, Nat.zero_le _⟩) hw (fun H locs hw => ?_)
  refine lv_istore (lv' := [(5, .int r1), (0, .ref (A 2)), (1, .ref (A 1)), (2, .int x2), (3, .int x3), (4, .int x4)]) hx hb d_S_tryFrom_5 hl (by decide) rfl (fun ls hl => ?_)
  refine lv_iload hx hb d_S_tryFrom_7 (lv_at hl 0 rfl) ?_
  refine lv_iconst (v := -1) hx hb d_S_tryFrom_9 (by decide) ?_
  refine lv_icmp_ne (tgt := 15) hx hb d_S_tryFrom_10 (by decide) (fun c => ?_) (fun c => ?_)
  · have h := kb_in c h
    refine lv_iload hx hb d_S_tryFrom_15 (lv_at hl 5 rfl) ?_
    refine lv_aload_n hx hb d_S_tryFrom_17 rfl (lv_at hl 2 rfl) ?_
    refine lv_iload hx hb d_S_tryFrom_18 (lv_at hl 0 rfl) ?_
    obtain ⟨r3, M4, hc, h⟩ := kb_cl_some h
    refine kb_calli0 (va_runVN (As := [.int r1]) (rest := [.int x4]) ⟨hx, hb, hml, hown, htw⟩ (c_Y_isBlocking l D A G r1 M2 _ _ H.size hc) ⟨(va_cnB 1 htw (wsC_self mC_90) rfl rfl rfl (nm_S_82 hN) (htw _ mC_1) q_Y_isBlocking ⟨by show 2 + 1 ≤ fr + 16; omega, by show 8 + (2 + 11) + 47 ≤ lo + 320; omega⟩), htw _ mC_89, htw _ mC_232⟩ (kb_preV nnC_warm nnC_same hw hN 1 (wC_1 A G _) rfl) rfl rfl hl.1 rfl (lv_room (Nat.le_of_ble_eq_true rfl)) d_S_tryFrom_20 ⟨Nat.zero_le _, Nat.zero_le _⟩) hw (fun H locs hw => ?_)
    refine lv_if_eq (tgt := 30) hx hb d_S_tryFrom_23 (by decide) (fun c => ?_) (fun c => ?_)
    · have h := kb_ip c h
      refine lv_iconst (v := 0) hx hb d_S_tryFrom_30 (by decide) ?_
      refine lv_isub hx hb d_S_tryFrom_31 ?_
      refine lv_istore (lv' := [(6, .int (x4 - (0 : Int32))), (5, .int r1), (0, .ref (A 2)), (1, .ref (A 1)), (2, .int x2), (3, .int x3), (4, .int x4)]) hx hb d_S_tryFrom_32 hl (by decide) rfl (fun ls hl => ?_)
      refine lv_iconst (v := 0) hx hb d_S_tryFrom_34 (by decide) ?_
      refine lv_istore (lv' := [(7, .int (0 : Int32)), (6, .int (x4 - (0 : Int32))), (5, .int r1), (0, .ref (A 2)), (1, .ref (A 1)), (2, .int x2), (3, .int x3), (4, .int x4)]) hx hb d_S_tryFrom_35 hl (by decide) rfl (fun ls hl => ?_)
      exact loop_37 kb_F x2 x3 r1 (x4 - (0 : Int32)) (0 : Int32) M4 _ _ _ h hw (lv_sub hl [3, 4, 5, 6, 2, 1, 0] rfl)
    · have h := kb_in c h
      refine lv_iconst (v := 1) hx hb d_S_tryFrom_26 (by decide) ?_
      refine lv_goto (tgt := 31) hx hb d_S_tryFrom_27 (by decide) ?_
      refine lv_isub hx hb d_S_tryFrom_31 ?_
      refine lv_istore (lv' := [(6, .int (x4 - (1 : Int32))), (5, .int r1), (0, .ref (A 2)), (1, .ref (A 1)), (2, .int x2), (3, .int x3), (4, .int x4)]) hx hb d_S_tryFrom_32 hl (by decide) rfl (fun ls hl => ?_)
      refine lv_iconst (v := 0) hx hb d_S_tryFrom_34 (by decide) ?_
      refine lv_istore (lv' := [(7, .int (0 : Int32)), (6, .int (x4 - (1 : Int32))), (5, .int r1), (0, .ref (A 2)), (1, .ref (A 1)), (2, .int x2), (3, .int x3), (4, .int x4)]) hx hb d_S_tryFrom_35 hl (by decide) rfl (fun ls hl => ?_)
      exact loop_37 kb_F x2 x3 r1 (x4 - (1 : Int32)) (0 : Int32) M4 _ _ _ h hw (lv_sub hl [3, 4, 5, 6, 2, 1, 0] rfl)
  · have h := kb_ip c h
    refine lv_iconst (v := 0) hx hb d_S_tryFrom_13 (by decide) ?_
    obtain ⟨rfl, rfl⟩ := kb_rt h
    exact kb_zret hx hb hr hw hlocks (Or.inl rfl) d_S_tryFrom_14
def h_S_goOn_26 (gg : Int32 → Int32 → (Nat → Nat → Int32) → Option (Int32 × (Nat → Nat → Int32))) : Nat → Int32 → Int32 → Int32 → (Nat → Nat → Int32) → Option (Int32 × (Nat → Nat → Int32))
  | 0, _, _, _, _ => none
  | n + 1, u2, u3, u4, M => (if (M 1 0) ≤ u4 then some ((0 : Int32), M) else kb_cl (f_S_tryFrom gg u4 u2 u3 M) (fun r5 M6 => (if r5 = (0 : Int32) then h_S_goOn_26 gg n u2 u3 (u4 + 1) M6 else some ((1 : Int32), M6))))
def f_S_goOnB (gg : Int32 → Int32 → (Nat → Nat → Int32) → Option (Int32 × (Nat → Nat → Int32))) (x2 x3 : Int32) (M0 : Nat → Nat → Int32) : Option (Int32 × (Nat → Nat → Int32)) := kb_cl (f_S_letLeave M0) (fun r1 M2 => kb_cl (f_Y_nextWanted M2) (fun r3 M4 => (if r3 = (-1 : Int32) then some ((1 : Int32), M4) else (if x2 < (12 : Int32) then h_S_goOn_26 gg kb_F x2 x3 (0 : Int32) M4 else some ((0 : Int32), M4)))))
set_option maxHeartbeats 4000000 in
set_option maxRecDepth 100000 in
theorem c_S_goOnB (l : Launch) (D : va_G) (A : Nat → Nat) (G : Nat → ClassId) (fr lo : Nat) (gg : Int32 → Int32 → (Nat → Nat → Int32) → Option (Int32 × (Nat → Nat → Int32))) (hg : ∀ (x2 x3 : Int32) (M0 : Nat → Nat → Int32) (r : Int32) (M' : Nat → Nat → Int32) (sz : Nat), gg x2 x3 M0 = some (r, M') → kb_Ci l y_S_goOn (Cond.code y_S_goOn b_S_goOn 5 (some .boolean) :: wsC) { frames := fr, cells := 0, slots := 0, locals := lo } [.ref (A 2), .ref (A 1), .int x2, .int x3] D kcl (tyC G) (wC A G M0) (wC A G M') nnC sz r) (x2 x3 : Int32) (M0 : Nat → Nat → Int32) (r : Int32) (M' : Nat → Nat → Int32) (sz : Nat) (h : f_S_goOnB gg x2 x3 M0 = some (r, M')) : kb_Ci l y_S_goOn (Cond.code y_S_goOn b_S_goOn 5 (some .boolean) :: wsC) { frames := fr + 24, cells := 0, slots := 0, locals := lo + 480 } [.ref (A 2), .ref (A 1), .int x2, .int x3] D kcl (tyC G) (wC A G M0) (wC A G M') nnC sz r := by
  refine Met.ofW (cc := b_S_goOn) (maxL := 5) (ret := (some .boolean)) (by decide) rfl ?_
  intro p e s m args below meth c s₁ B hml hv
  obtain ⟨rfl, hpre⟩ := hv
  obtain ⟨hw, hN⟩ := kb_enter hpre
  have hx := B.exec
  have hb := B.bytes
  have hr := B.returns
  have hts := atoms_spec (ws := (Cond.code y_S_goOn b_S_goOn 5 (some .boolean) :: wsC)) B.pre
  have htw : ∀ w ∈ wsC, w.before ([.ref (A 2), .ref (A 1), .int x2, .int x3] : List Value).toArray s = true := fun w h => hts w (List.mem_cons_of_mem _ h)
  have hown : s.vm.findClass "PileLifts$Search" = some m.cls := findClass_of_methodNamed B.named
  have hlocks := B.notSynchronized
  have loop_26 : ∀ (n26 : Nat) (u2 u3 u4 : Int32) (M : Nat → Nat → Int32) (H : Heap) (locs : List Loc) (ls : Array Slot), h_S_goOn_26 gg n26 u2 u3 u4 M = some (r, M') → kb_K D kcl (tyC G) (wC A G M) s (va_A (wC A G M0) sz) H locs → lv_has ls 5 [(0, .ref (A 2)), (1, .ref (A 1)), (2, .int u2), (3, .int u3), (4, .int u4)] → W p l e (headSpec (Cond.code y_S_goOn b_S_goOn 5 (some .boolean) :: wsC) { frames := fr + 24, cells := 0, slots := 0, locals := lo + 480 }).room s m ([.ref (A 2), .ref (A 1), .int x2, .int x3] : List Value).toArray below meth c H locs 0 0 (kb_Qi D kcl (tyC G) (wC A G M0) (wC A G M') sz r below ([.ref (A 2), .ref (A 1), .int x2, .int x3] : List Value).toArray s) (F0 m 26 ls []) := by
    intro n26
    induction n26 with
    | zero =>
      intro u2 u3 u4 M H locs ls h
      cases h
    | succ n26 ih =>
      intro u2 u3 u4 M H locs ls h hw hl
      rw [h_S_goOn_26] at h
      refine lv_iload hx hb d_S_goOn_26 (lv_at hl 4 rfl) ?_
      refine lv_aload_n hx hb d_S_goOn_28 rfl (lv_at hl 1 rfl) ?_
      refine kb_getN (own := "PileLifts$Search") (ref := "PileLifts$Yard") (C := R_Y) (T := F_Y) (N := 10) hx hb htw i_Y hown hw 1 (wC_1 A G _) rfl 0 (by decide) (va_Nw.use rfl (nf_S_71 hN)) rfl rfl d_S_goOn_29 ?_
      refine lv_icmp_ge (tgt := 55) hx hb d_S_goOn_32 (by decide) (fun c => ?_) (fun c => ?_)
      · have h := kb_ip c h
        refine lv_iconst (v := 0) hx hb d_S_goOn_55 (by decide) ?_
        obtain ⟨rfl, rfl⟩ := kb_rt h
        exact kb_zret hx hb hr hw hlocks (Or.inl rfl) d_S_goOn_56
      · have h := kb_in c h
        refine lv_aload_n hx hb d_S_goOn_35 rfl (lv_at hl 0 rfl) ?_
        refine lv_aload_n hx hb d_S_goOn_36 rfl (lv_at hl 1 rfl) ?_
        refine lv_iload hx hb d_S_goOn_37 (lv_at hl 4 rfl) ?_
        refine lv_iload_n hx hb d_S_goOn_39 rfl (lv_at hl 2 rfl) ?_
        refine lv_iload_n hx hb d_S_goOn_40 rfl (lv_at hl 3 rfl) ?_
        obtain ⟨r5, M6, hc, h⟩ := kb_cl_some h
        refine kb_calli0 (va_runV (As := [.ref (A 1), .int u4, .int u2, .int u3]) (rest := []) ⟨hx, hb, hml, hown, htw⟩ (c_S_tryFrom l D A G fr lo gg hg u4 u2 u3 M _ _ H.size hc) ⟨(callB_of 4 htw (wsC_self mC_169) rfl rfl rfl (htw _ mC_2) (htw _ mC_167) q_S_tryFrom ⟨by show (fr + 16) + 1 ≤ fr + 24; omega, by show 8 + (9 + 11) + (lo + 320) ≤ lo + 480; omega⟩), htw _ mC_168, htw _ mC_252⟩ (kb_preV nnC_warm nnC_same hw hN 2 (wC_2 A G _) rfl) rfl rfl hl.1 rfl (lv_room (Nat.le_of_ble_eq_true rfl)) d_S_goOn_41 ⟨Nat.zero_le _, Nat.zero_le _⟩) hw (fun H locs hw => ?_)
        refine lv_if_eq (tgt := 49) hx hb d_S_goOn_44 (by decide) (fun c => ?_) (fun c => ?_)
        · have h := kb_ip c h
          refine lv_iinc (v := (u4 + 1)) (lv' := [(4, .int (u4 + 1)), (0, .ref (A 2)), (1, .ref (A 1)), (2, .int u2), (3, .int u3)]) hx hb d_S_goOn_49 hl (k := 4) rfl rfl (by decide) rfl (fun ls hl => ?_)
          refine lv_goto (tgt := 26) hx hb d_S_goOn_52 (by decide) ?_
          exact ih u2 u3 (u4 + 1) M6 _ _ _ h hw (lv_sub hl [1, 2, 3, 4, 0] rfl)
        · have h := kb_in c h
          refine lv_iconst (v := 1) hx hb d_S_goOn_47 (by decide) ?_
          obtain ⟨rfl, rfl⟩ := kb_rt h
          exact kb_zret hx hb hr hw hlocks (Or.inr rfl) d_S_goOn_48
  have hl := lv_entry ([.ref (A 2), .ref (A 1), .int x2, .int x3]) (n := 5) (Nat.le_of_ble_eq_true rfl)
  rw [lg_entry_eq]
  generalize (lg_sl ([.ref (A 2), .ref (A 1), .int x2, .int x3]) ++ List.replicate (5 - (lg_sl ([.ref (A 2), .ref (A 1), .int x2, .int x3])).length) Slot.unset).toArray = ls at hl ⊢
  have hl : lv_has ls 5 [(0, .ref (A 2)), (1, .ref (A 1)), (2, .int x2), (3, .int x3)] := hl
  rw [f_S_goOnB] at h
  refine lv_aload_n hx hb d_S_goOn_0 rfl (lv_at hl 0 rfl) ?_
  refine lv_aload_n hx hb d_S_goOn_1 rfl (lv_at hl 1 rfl) ?_
  obtain ⟨r1, M2, hc, h⟩ := kb_cl_some h
  refine kb_callv0 (va_runV (As := [.ref (A 1)]) (rest := []) ⟨hx, hb, hml, hown, htw⟩ (c_S_letLeave l D A G M0 _ _ s.heap.size hc) ⟨(callB_of 1 htw (wsC_self mC_157) rfl rfl rfl (htw _ mC_2) (htw _ mC_155) q_S_letLeave ⟨by show 3 + 1 ≤ fr + 24; omega, by show 8 + (4 + 11) + 64 ≤ lo + 480; omega⟩), htw _ mC_156, htw _ mC_247⟩ (kb_preV nnC_warm nnC_same hw hN 2 (wC_2 A G _) rfl) rfl rfl hl.1 rfl (lv_room (Nat.le_of_ble_eq_true rfl)) d_S_goOn_2 ⟨Nat.zero_le _, Nat.zero_le _⟩) hw (fun H locs hw => ?_)
  refine lv_aload_n hx hb d_S_goOn_5 rfl (lv_at hl 1 rfl) ?_
  obtain ⟨r3, M4, hc, h⟩ := kb_cl_some h
  refine kb_calli0 (va_runVN (As := []) (rest := []) ⟨hx, hb, hml, hown, htw⟩ (c_Y_nextWanted l D A G M2 _ _ H.size hc) ⟨(va_cnB 0 htw (wsC_self mC_159) rfl rfl rfl (nm_S_68 hN) (htw _ mC_1) q_Y_nextWanted ⟨by show 1 + 1 ≤ fr + 24; omega, by show 8 + (4 + 11) + 21 ≤ lo + 480; omega⟩), htw _ mC_158, htw _ mC_248⟩ (kb_preV nnC_warm nnC_same hw hN 1 (wC_1 A G _) rfl) rfl rfl hl.1 rfl (lv_room (Nat.le_of_ble_eq_true rfl)) d_S_goOn_6 ⟨Nat.zero_le _, Nat.zero_le _⟩) hw (fun H locs hw => ?_)
  refine lv_iconst (v := -1) hx hb d_S_goOn_9 (by decide) ?_
  refine lv_icmp_ne (tgt := 15) hx hb d_S_goOn_10 (by decide) (fun c => ?_) (fun c => ?_)
  · have h := kb_in c h
    refine lv_iload_n hx hb d_S_goOn_15 rfl (lv_at hl 2 rfl) ?_
    refine lv_bipush (v := 12) hx hb d_S_goOn_16 (by decide) ?_
    refine lv_icmp_lt (tgt := 23) hx hb d_S_goOn_18 (by decide) (fun c => ?_) (fun c => ?_)
    · have h := kb_ip c h
      refine lv_iconst (v := 0) hx hb d_S_goOn_23 (by decide) ?_
      refine lv_istore (lv' := [(4, .int (0 : Int32)), (0, .ref (A 2)), (1, .ref (A 1)), (2, .int x2), (3, .int x3)]) hx hb d_S_goOn_24 hl (by decide) rfl (fun ls hl => ?_)
      exact loop_26 kb_F x2 x3 (0 : Int32) M4 _ _ _ h hw (lv_sub hl [1, 2, 3, 4, 0] rfl)
    · have h := kb_in c h
      refine lv_iconst (v := 0) hx hb d_S_goOn_21 (by decide) ?_
      obtain ⟨rfl, rfl⟩ := kb_rt h
      exact kb_zret hx hb hr hw hlocks (Or.inl rfl) d_S_goOn_22
  · have h := kb_ip c h
    refine lv_iconst (v := 1) hx hb d_S_goOn_13 (by decide) ?_
    obtain ⟨rfl, rfl⟩ := kb_rt h
    exact kb_zret hx hb hr hw hlocks (Or.inr rfl) d_S_goOn_14
def f_S_goOn : Nat → Int32 → Int32 → (Nat → Nat → Int32) → Option (Int32 × (Nat → Nat → Int32))
  | 0, _, _, _ => none
  | d + 1, x2, x3, M => f_S_goOnB (fun a b N => f_S_goOn d a b N) x2 x3 M
theorem c_S_goOn (l : Launch) (D : va_G) (A : Nat → Nat) (G : Nat → ClassId) : ∀ (d : Nat) (x2 x3 : Int32) (M0 : Nat → Nat → Int32) (r : Int32) (M' : Nat → Nat → Int32) (sz : Nat), f_S_goOn d x2 x3 M0 = some (r, M') → kb_Ci l y_S_goOn (Cond.code y_S_goOn b_S_goOn 5 (some .boolean) :: wsC) { frames := 24 * d, cells := 0, slots := 0, locals := 480 * d } [.ref (A 2), .ref (A 1), .int x2, .int x3] D kcl (tyC G) (wC A G M0) (wC A G M') nnC sz r := by
  intro d
  induction d with
  | zero =>
    intro x2 x3 M0 r M' sz h
    cases h
  | succ d ih =>
    intro x2 x3 M0 r M' sz h
    rw [f_S_goOn] at h
    exact c_S_goOnB l D A G (24 * d) (480 * d) (fun a b N => f_S_goOn d a b N) ih x2 x3 M0 r M' sz h

def h_S_countRelifts_4 : Nat → Int32 → Int32 → (Nat → Nat → Int32) → Option (Int32 × (Nat → Nat → Int32))
  | 0, _, _, _ => none
  | n + 1, u1, u2, M => (if (M 2 6) ≤ u2 then some (u1, M) else kb_rd (M 13) 22 u2 (fun v1 => (if v1 = (-1 : Int32) then h_S_countRelifts_4 n u1 (u2 + 1) M else h_S_countRelifts_4 n (u1 + 1) (u2 + 1) M)))
def f_S_countRelifts (M0 : Nat → Nat → Int32) : Option (Int32 × (Nat → Nat → Int32)) := h_S_countRelifts_4 kb_F (0 : Int32) (0 : Int32) M0
set_option maxHeartbeats 4000000 in
set_option maxRecDepth 100000 in
theorem c_S_countRelifts (l : Launch) (D : va_G) (A : Nat → Nat) (G : Nat → ClassId) (M0 : Nat → Nat → Int32) (r : Int32) (M' : Nat → Nat → Int32) (sz : Nat) (h : f_S_countRelifts M0 = some (r, M')) : kb_Ci l y_S_countRelifts (Cond.code y_S_countRelifts b_S_countRelifts 3 (some .int) :: wsC) { frames := 0, cells := 0, slots := 0, locals := 0 } [.ref (A 2)] D kcl (tyC G) (wC A G M0) (wC A G M') nnC sz r := by
  refine Met.ofW (cc := b_S_countRelifts) (maxL := 3) (ret := (some .int)) (by decide) rfl ?_
  intro p e s m args below meth c s₁ B hml hv
  obtain ⟨rfl, hpre⟩ := hv
  obtain ⟨hw, hN⟩ := kb_enter hpre
  have hx := B.exec
  have hb := B.bytes
  have hr := B.returns
  have hts := atoms_spec (ws := (Cond.code y_S_countRelifts b_S_countRelifts 3 (some .int) :: wsC)) B.pre
  have htw : ∀ w ∈ wsC, w.before ([.ref (A 2)] : List Value).toArray s = true := fun w h => hts w (List.mem_cons_of_mem _ h)
  have hown : s.vm.findClass "PileLifts$Search" = some m.cls := findClass_of_methodNamed B.named
  have hlocks := B.notSynchronized
  have loop_4 : ∀ (n4 : Nat) (u1 u2 : Int32) (M : Nat → Nat → Int32) (H : Heap) (locs : List Loc) (ls : Array Slot), h_S_countRelifts_4 n4 u1 u2 M = some (r, M') → kb_K D kcl (tyC G) (wC A G M) s (va_A (wC A G M0) sz) H locs → lv_has ls 3 [(0, .ref (A 2)), (1, .int u1), (2, .int u2)] → W p l e (headSpec (Cond.code y_S_countRelifts b_S_countRelifts 3 (some .int) :: wsC) { frames := 0, cells := 0, slots := 0, locals := 0 }).room s m ([.ref (A 2)] : List Value).toArray below meth c H locs 0 0 (kb_Qi D kcl (tyC G) (wC A G M0) (wC A G M') sz r below ([.ref (A 2)] : List Value).toArray s) (F0 m 4 ls []) := by
    intro n4
    induction n4 with
    | zero =>
      intro u1 u2 M H locs ls h
      cases h
    | succ n4 ih =>
      intro u1 u2 M H locs ls h hw hl
      rw [h_S_countRelifts_4] at h
      refine lv_iload_n hx hb d_S_countRelifts_4 rfl (lv_at hl 2 rfl) ?_
      refine lv_aload_n hx hb d_S_countRelifts_5 rfl (lv_at hl 0 rfl) ?_
      refine kb_get (own := "PileLifts$Search") (ref := "PileLifts$Search") (C := R_S) (T := F_S) (N := 10) hx hb htw i_S hown hw 2 (wC_2 A G _) rfl 6 (by decide) (htw _ mC_47) rfl rfl d_S_countRelifts_6 ?_
      refine lv_icmp_ge (tgt := 31) hx hb d_S_countRelifts_9 (by decide) (fun c => ?_) (fun c => ?_)
      · have h := kb_ip c h
        refine lv_iload_n hx hb d_S_countRelifts_31 rfl (lv_at hl 1 rfl) ?_
        obtain ⟨rfl, rfl⟩ := kb_rt h
        exact kb_iret hx hb hr hw hlocks d_S_countRelifts_32
      · have h := kb_in c h
        refine lv_aload_n hx hb d_S_countRelifts_12 rfl (lv_at hl 0 rfl) ?_
        refine kb_get (own := "PileLifts$Search") (ref := "PileLifts$Search") (C := R_S) (T := F_S) (N := 10) hx hb htw i_S hown hw 2 (wC_2 A G _) rfl 9 (by decide) (htw _ mC_50) rfl rfl d_S_countRelifts_13 ?_
        refine lv_iload_n hx hb d_S_countRelifts_16 rfl (lv_at hl 2 rfl) ?_
        obtain ⟨v1, ev1, hi, h⟩ := kb_rd_some h
        refine kb_ald hx hb hw 13 9 rfl rfl hi ev1 d_S_countRelifts_17 ?_
        refine lv_iconst (v := -1) hx hb d_S_countRelifts_18 (by decide) ?_
        refine lv_icmp_eq (tgt := 25) hx hb d_S_countRelifts_19 (by decide) (fun c => ?_) (fun c => ?_)
        · have h := kb_ip c h
          refine lv_iinc (v := (u2 + 1)) (lv' := [(2, .int (u2 + 1)), (0, .ref (A 2)), (1, .int u1)]) hx hb d_S_countRelifts_25 hl (k := 2) rfl rfl (by decide) rfl (fun ls hl => ?_)
          refine lv_goto (tgt := 4) hx hb d_S_countRelifts_28 (by decide) ?_
          exact ih u1 (u2 + 1) M _ _ _ h hw (lv_sub hl [1, 2, 0] rfl)
        · have h := kb_in c h
          refine lv_iinc (v := (u1 + 1)) (lv' := [(1, .int (u1 + 1)), (0, .ref (A 2)), (2, .int u2)]) hx hb d_S_countRelifts_22 hl (k := 1) rfl rfl (by decide) rfl (fun ls hl => ?_)
          refine lv_iinc (v := (u2 + 1)) (lv' := [(2, .int (u2 + 1)), (1, .int (u1 + 1)), (0, .ref (A 2))]) hx hb d_S_countRelifts_25 hl (k := 2) rfl rfl (by decide) rfl (fun ls hl => ?_)
          refine lv_goto (tgt := 4) hx hb d_S_countRelifts_28 (by decide) ?_
          exact ih (u1 + 1) (u2 + 1) M _ _ _ h hw (lv_sub hl [2, 1, 0] rfl)
  have hl := lv_entry ([.ref (A 2)]) (n := 3) (Nat.le_of_ble_eq_true rfl)
  rw [lg_entry_eq]
  generalize (lg_sl ([.ref (A 2)]) ++ List.replicate (3 - (lg_sl ([.ref (A 2)])).length) Slot.unset).toArray = ls at hl ⊢
  have hl : lv_has ls 3 [(0, .ref (A 2))] := hl
  rw [f_S_countRelifts] at h
  refine lv_iconst (v := 0) hx hb d_S_countRelifts_0 (by decide) ?_
  refine lv_istore_n (lv' := [(1, .int (0 : Int32)), (0, .ref (A 2))]) hx hb d_S_countRelifts_1 rfl hl (by decide) rfl (fun ls hl => ?_)
  refine lv_iconst (v := 0) hx hb d_S_countRelifts_2 (by decide) ?_
  refine lv_istore_n (lv' := [(2, .int (0 : Int32)), (1, .int (0 : Int32)), (0, .ref (A 2))]) hx hb d_S_countRelifts_3 rfl hl (by decide) rfl (fun ls hl => ?_)
  exact loop_4 kb_F (0 : Int32) (0 : Int32) M0 _ _ _ h hw (lv_sub hl [2, 1, 0] rfl)
def h_S_findBest_113 (w0 : Int32) (M : Nat → Nat → Int32) : Option (Int32 × (Nat → Nat → Int32)) := kb_bz w0 (kb_st (kb_up M 2 (upd (M 2) 1 w0)) (fun M8 => (if (M8 2 2) = (0 : Int32) then some ((-1 : Int32), M8) else kb_cl (f_S_countRelifts M8) (fun r9 M10 => some (r9, M10)))))
def h_S_findBest_95 (M : Nat → Nat → Int32) : Option (Int32 × (Nat → Nat → Int32)) := kb_st (kb_up M 2 (upd (M 2) 0 (1 : Int32))) (fun M7 => (if (M7 2 3) = (0 : Int32) then h_S_findBest_113 (1 : Int32) M7 else h_S_findBest_113 (0 : Int32) M7))
def h_S_findBest_22 : Nat → Int32 → Int32 → (Nat → Nat → Int32) → Option (Int32 × (Nat → Nat → Int32))
  | 0, _, _, _ => none
  | n + 1, u3, u4, M => (if (12 : Int32) < u4 then h_S_findBest_95 M else (if (M 2 2) = (0 : Int32) then (if (M 2 3) = (0 : Int32) then kb_st (kb_up M 2 (upd (M 2) 5 u4)) (fun M11 => kb_cl (f_S_goOn 14 (0 : Int32) u3 M11) (fun r12 M13 => kb_bz r12 (kb_st (kb_up M13 2 (upd (M13 2) 2 r12)) (fun M14 => kb_cl (f_S_takeBack (0 : Int32) M14) (fun r15 M16 => (if (M16 2 2) = (0 : Int32) then kb_st (kb_up M16 2 (upd (M16 2) 6 (0 : Int32))) (fun M17 => h_S_findBest_22 n u3 (u4 + 1) M17) else kb_st (kb_up M16 2 (upd (M16 2) 6 (M14 2 6))) (fun M18 => h_S_findBest_22 n u3 (u4 + 1) M18))))))) else h_S_findBest_95 M) else h_S_findBest_95 M))
def f_S_findBest (x2 : Int32) (M0 : Nat → Nat → Int32) : Option (Int32 × (Nat → Nat → Int32)) := kb_cl (f_S_forget M0) (fun r1 M2 => kb_st (kb_up M2 2 (upd (M2 2) 4 x2)) (fun M3 => kb_st (kb_up M3 2 (upd (M3 2) 3 (0 : Int32))) (fun M4 => kb_cl (f_Y_countBlocking M4) (fun r5 M6 => h_S_findBest_22 kb_F r5 r5 M6))))
set_option maxHeartbeats 4000000 in
set_option maxRecDepth 100000 in
theorem c_S_findBest (l : Launch) (D : va_G) (A : Nat → Nat) (G : Nat → ClassId) (x2 : Int32) (M0 : Nat → Nat → Int32) (r : Int32) (M' : Nat → Nat → Int32) (sz : Nat) (h : f_S_findBest x2 M0 = some (r, M')) : kb_Ci l y_S_findBest (Cond.code y_S_findBest b_S_findBest 6 (some .int) :: wsC) { frames := 337, cells := 0, slots := 0, locals := 6744 } [.ref (A 2), .ref (A 1), .int x2] D kcl (tyC G) (wC A G M0) (wC A G M') nnC sz r := by
  refine Met.ofW (cc := b_S_findBest) (maxL := 6) (ret := (some .int)) (by decide) rfl ?_
  intro p e s m args below meth c s₁ B hml hv
  obtain ⟨rfl, hpre⟩ := hv
  obtain ⟨hw, hN⟩ := kb_enter hpre
  have hx := B.exec
  have hb := B.bytes
  have hr := B.returns
  have hts := atoms_spec (ws := (Cond.code y_S_findBest b_S_findBest 6 (some .int) :: wsC)) B.pre
  have htw : ∀ w ∈ wsC, w.before ([.ref (A 2), .ref (A 1), .int x2] : List Value).toArray s = true := fun w h => hts w (List.mem_cons_of_mem _ h)
  have hown : s.vm.findClass "PileLifts$Search" = some m.cls := findClass_of_methodNamed B.named
  have hlocks := B.notSynchronized
  have loop_113 : ∀ (w0 : Int32) (M : Nat → Nat → Int32) (H : Heap) (locs : List Loc) (ls : Array Slot), h_S_findBest_113 w0 M = some (r, M') → kb_K D kcl (tyC G) (wC A G M) s (va_A (wC A G M0) sz) H locs → lv_has ls 6 [(0, .ref (A 2))] → W p l e (headSpec (Cond.code y_S_findBest b_S_findBest 6 (some .int) :: wsC) { frames := 337, cells := 0, slots := 0, locals := 6744 }).room s m ([.ref (A 2), .ref (A 1), .int x2] : List Value).toArray below meth c H locs 0 0 (kb_Qi D kcl (tyC G) (wC A G M0) (wC A G M') sz r below ([.ref (A 2), .ref (A 1), .int x2] : List Value).toArray s) (F0 m 113 ls [.int w0, .ref (A 2)]) := by
    intro w0 M H locs ls h hw hl
    rw [h_S_findBest_113] at h
    obtain ⟨hz, h⟩ := kb_bz_some h
    obtain ⟨M8, eM8, h⟩ := kb_st_some h
    refine kb_put (ws' := (wC A G M8)) (own := "PileLifts$Search") (ref := "PileLifts$Search") (C := R_S) (T := F_S) (N := 10) (ty := .boolean) hx hb htw i_S t_S t_S_ok n_S hown hw 2 (wC_2 A G _) rfl 1 (by decide) (htw _ mC_42) rfl rfl (by decide +kernel) (kb_nz hz) (kb_fz hz) (Nat.le_of_ble_eq_true rfl) d_S_findBest_113 (by rw [eM8]; rfl) (fun H locs hw => ?_)
    refine lv_aload_n hx hb d_S_findBest_116 rfl (lv_at hl 0 rfl) ?_
    refine kb_get (own := "PileLifts$Search") (ref := "PileLifts$Search") (C := R_S) (T := F_S) (N := 10) hx hb htw i_S hown hw 2 (wC_2 A G _) rfl 2 (by decide) (htw _ mC_43) rfl rfl d_S_findBest_117 ?_
    refine lv_if_eq (tgt := 130) hx hb d_S_findBest_120 (by decide) (fun c => ?_) (fun c => ?_)
    · have h := kb_ip c h
      refine lv_iconst (v := -1) hx hb d_S_findBest_130 (by decide) ?_
      obtain ⟨rfl, rfl⟩ := kb_rt h
      exact kb_iret hx hb hr hw hlocks d_S_findBest_131
    · have h := kb_in c h
      refine lv_aload_n hx hb d_S_findBest_123 rfl (lv_at hl 0 rfl) ?_
      obtain ⟨r9, M10, hc, h⟩ := kb_cl_some h
      refine kb_calli0 (va_runV (As := []) (rest := []) ⟨hx, hb, hml, hown, htw⟩ (c_S_countRelifts l D A G M8 _ _ H.size hc) ⟨(callB_of 0 htw (wsC_self mC_183) rfl rfl rfl (htw _ mC_2) (htw _ mC_181) q_S_countRelifts ⟨by show 0 + 1 ≤ 337; omega, by show 8 + (3 + 11) + 0 ≤ 6744; omega⟩), htw _ mC_182, htw _ mC_257⟩ (kb_preV nnC_warm nnC_same hw hN 2 (wC_2 A G _) rfl) rfl rfl hl.1 rfl (lv_room (Nat.le_of_ble_eq_true rfl)) d_S_findBest_124 ⟨Nat.zero_le _, Nat.zero_le _⟩) hw (fun H locs hw => ?_)
      refine lv_goto (tgt := 131) hx hb d_S_findBest_127 (by decide) ?_
      obtain ⟨rfl, rfl⟩ := kb_rt h
      exact kb_iret hx hb hr hw hlocks d_S_findBest_131
  have loop_95 : ∀ (M : Nat → Nat → Int32) (H : Heap) (locs : List Loc) (ls : Array Slot), h_S_findBest_95 M = some (r, M') → kb_K D kcl (tyC G) (wC A G M) s (va_A (wC A G M0) sz) H locs → lv_has ls 6 [(0, .ref (A 2))] → W p l e (headSpec (Cond.code y_S_findBest b_S_findBest 6 (some .int) :: wsC) { frames := 337, cells := 0, slots := 0, locals := 6744 }).room s m ([.ref (A 2), .ref (A 1), .int x2] : List Value).toArray below meth c H locs 0 0 (kb_Qi D kcl (tyC G) (wC A G M0) (wC A G M') sz r below ([.ref (A 2), .ref (A 1), .int x2] : List Value).toArray s) (F0 m 95 ls []) := by
    intro M H locs ls h hw hl
    rw [h_S_findBest_95] at h
    refine lv_aload_n hx hb d_S_findBest_95 rfl (lv_at hl 0 rfl) ?_
    refine lv_iconst (v := 1) hx hb d_S_findBest_96 (by decide) ?_
    obtain ⟨M7, eM7, h⟩ := kb_st_some h
    refine kb_put (ws' := (wC A G M7)) (own := "PileLifts$Search") (ref := "PileLifts$Search") (C := R_S) (T := F_S) (N := 10) (ty := .boolean) hx hb htw i_S t_S t_S_ok n_S hown hw 2 (wC_2 A G _) rfl 0 (by decide) (htw _ mC_41) rfl rfl (by decide +kernel) (kb_nz (Or.inr rfl)) (kb_fz (Or.inr rfl)) (Nat.le_of_ble_eq_true rfl) d_S_findBest_97 (by rw [eM7]; rfl) (fun H locs hw => ?_)
    refine lv_aload_n hx hb d_S_findBest_100 rfl (lv_at hl 0 rfl) ?_
    refine lv_aload_n hx hb d_S_findBest_101 rfl (lv_at hl 0 rfl) ?_
    refine kb_get (own := "PileLifts$Search") (ref := "PileLifts$Search") (C := R_S) (T := F_S) (N := 10) hx hb htw i_S hown hw 2 (wC_2 A G _) rfl 3 (by decide) (htw _ mC_44) rfl rfl d_S_findBest_102 ?_
    refine lv_if_ne (tgt := 112) hx hb d_S_findBest_105 (by decide) (fun c => ?_) (fun c => ?_)
    · have h := kb_in c h
      refine lv_iconst (v := 0) hx hb d_S_findBest_112 (by decide) ?_
      exact loop_113 (0 : Int32) M7 _ _ _ h hw (lv_sub hl [0] rfl)
    · have h := kb_ip c h
      refine lv_iconst (v := 1) hx hb d_S_findBest_108 (by decide) ?_
      refine lv_goto (tgt := 113) hx hb d_S_findBest_109 (by decide) ?_
      exact loop_113 (1 : Int32) M7 _ _ _ h hw (lv_sub hl [0] rfl)
  have loop_22 : ∀ (n22 : Nat) (u3 u4 : Int32) (M : Nat → Nat → Int32) (H : Heap) (locs : List Loc) (ls : Array Slot), h_S_findBest_22 n22 u3 u4 M = some (r, M') → kb_K D kcl (tyC G) (wC A G M) s (va_A (wC A G M0) sz) H locs → lv_has ls 6 [(0, .ref (A 2)), (1, .ref (A 1)), (3, .int u3), (4, .int u4)] → W p l e (headSpec (Cond.code y_S_findBest b_S_findBest 6 (some .int) :: wsC) { frames := 337, cells := 0, slots := 0, locals := 6744 }).room s m ([.ref (A 2), .ref (A 1), .int x2] : List Value).toArray below meth c H locs 0 0 (kb_Qi D kcl (tyC G) (wC A G M0) (wC A G M') sz r below ([.ref (A 2), .ref (A 1), .int x2] : List Value).toArray s) (F0 m 22 ls []) := by
    intro n22
    induction n22 with
    | zero =>
      intro u3 u4 M H locs ls h
      cases h
    | succ n22 ih =>
      intro u3 u4 M H locs ls h hw hl
      rw [h_S_findBest_22] at h
      refine lv_iload hx hb d_S_findBest_22 (lv_at hl 3 rfl) ?_
      refine lv_bipush (v := 12) hx hb d_S_findBest_24 (by decide) ?_
      refine lv_icmp_gt (tgt := 95) hx hb d_S_findBest_26 (by decide) (fun c => ?_) (fun c => ?_)
      · have h := kb_ip c h
        exact loop_95 M _ _ _ h hw (lv_sub hl [0] rfl)
      · have h := kb_in c h
        refine lv_aload_n hx hb d_S_findBest_29 rfl (lv_at hl 0 rfl) ?_
        refine kb_get (own := "PileLifts$Search") (ref := "PileLifts$Search") (C := R_S) (T := F_S) (N := 10) hx hb htw i_S hown hw 2 (wC_2 A G _) rfl 2 (by decide) (htw _ mC_43) rfl rfl d_S_findBest_30 ?_
        refine lv_if_ne (tgt := 95) hx hb d_S_findBest_33 (by decide) (fun c => ?_) (fun c => ?_)
        · have h := kb_in c h
          exact loop_95 M _ _ _ h hw (lv_sub hl [0] rfl)
        · have h := kb_ip c h
          refine lv_aload_n hx hb d_S_findBest_36 rfl (lv_at hl 0 rfl) ?_
          refine kb_get (own := "PileLifts$Search") (ref := "PileLifts$Search") (C := R_S) (T := F_S) (N := 10) hx hb htw i_S hown hw 2 (wC_2 A G _) rfl 3 (by decide) (htw _ mC_44) rfl rfl d_S_findBest_37 ?_
          refine lv_if_ne (tgt := 95) hx hb d_S_findBest_40 (by decide) (fun c => ?_) (fun c => ?_)
          · have h := kb_in c h
            exact loop_95 M _ _ _ h hw (lv_sub hl [0] rfl)
          · have h := kb_ip c h
            refine lv_aload_n hx hb d_S_findBest_43 rfl (lv_at hl 0 rfl) ?_
            refine lv_iload hx hb d_S_findBest_44 (lv_at hl 3 rfl) ?_
            obtain ⟨M11, eM11, h⟩ := kb_st_some h
            refine kb_put (ws' := (wC A G M11)) (own := "PileLifts$Search") (ref := "PileLifts$Search") (C := R_S) (T := F_S) (N := 10) (ty := .int) hx hb htw i_S t_S t_S_ok n_S hown hw 2 (wC_2 A G _) rfl 5 (by decide) (htw _ mC_46) rfl rfl (by decide +kernel) rfl rfl (Nat.le_of_ble_eq_true rfl) d_S_findBest_46 (by rw [eM11]; rfl) (fun H locs hw => ?_)
            refine lv_aload_n hx hb d_S_findBest_49 rfl (lv_at hl 0 rfl) ?_
            refine lv_aload_n hx hb d_S_findBest_50 rfl (lv_at hl 0 rfl) ?_
            refine lv_aload_n hx hb d_S_findBest_51 rfl (lv_at hl 1 rfl) ?_
            refine lv_iconst (v := 0) hx hb d_S_findBest_52 (by decide) ?_
            refine lv_iload_n hx hb d_S_findBest_53 rfl (lv_at hl 2 rfl) ?_
            obtain ⟨r12, M13, hc, h⟩ := kb_cl_some h
            refine kb_calli0 (va_runV (As := [.ref (A 1), .int (0 : Int32), .int u3]) (rest := [.ref (A 2)]) ⟨hx, hb, hml, hown, htw⟩ (c_S_goOn l D A G 14 (0 : Int32) u3 M11 _ _ H.size hc) ⟨(callB_of 3 htw (wsC_self mC_154) rfl rfl rfl (htw _ mC_2) (htw _ mC_152) q_S_goOn ⟨by show 336 + 1 ≤ 337; omega, by show 8 + (5 + 11) + 6720 ≤ 6744; omega⟩), htw _ mC_153, htw _ mC_246⟩ (kb_preV nnC_warm nnC_same hw hN 2 (wC_2 A G _) rfl) rfl rfl hl.1 rfl (lv_room (Nat.le_of_ble_eq_true rfl)) d_S_findBest_54 ⟨Nat.zero_le _, Nat.zero_le _⟩) hw (fun H locs hw => ?_)
            obtain ⟨hz, h⟩ := kb_bz_some h
            obtain ⟨M14, eM14, h⟩ := kb_st_some h
            refine kb_put (ws' := (wC A G M14)) (own := "PileLifts$Search") (ref := "PileLifts$Search") (C := R_S) (T := F_S) (N := 10) (ty := .boolean) hx hb htw i_S t_S t_S_ok n_S hown hw 2 (wC_2 A G _) rfl 2 (by decide) (htw _ mC_43) rfl rfl (by decide +kernel) (kb_nz hz) (kb_fz hz) (Nat.le_of_ble_eq_true rfl) d_S_findBest_57 (by rw [eM14]; rfl) (fun H locs hw => ?_)
            refine lv_aload_n hx hb d_S_findBest_60 rfl (lv_at hl 0 rfl) ?_
            refine kb_get (own := "PileLifts$Search") (ref := "PileLifts$Search") (C := R_S) (T := F_S) (N := 10) hx hb htw i_S hown hw 2 (wC_2 A G _) rfl 6 (by decide) (htw _ mC_47) rfl rfl d_S_findBest_61 ?_
            refine lv_istore (lv' := [(5, .int (M14 2 6)), (0, .ref (A 2)), (1, .ref (A 1)), (3, .int u3), (4, .int u4)]) hx hb d_S_findBest_64 hl (by decide) rfl (fun ls hl => ?_)
            refine lv_aload_n hx hb d_S_findBest_66 rfl (lv_at hl 1 rfl) ?_
            refine lv_aload_n hx hb d_S_findBest_67 rfl (lv_at hl 2 rfl) ?_
            refine lv_iconst (v := 0) hx hb d_S_findBest_68 (by decide) ?_
            obtain ⟨r15, M16, hc, h⟩ := kb_cl_some h
            refine kb_callv0 (va_runV (As := [.ref (A 1), .int (0 : Int32)]) (rest := []) ⟨hx, hb, hml, hown, htw⟩ (c_S_takeBack l D A G (0 : Int32) M14 _ _ H.size hc) ⟨(callB_of 2 htw (wsC_self mC_180) rfl rfl rfl (htw _ mC_2) (htw _ mC_178) q_S_takeBack ⟨by show 1 + 1 ≤ 337; omega, by show 8 + (3 + 11) + 23 ≤ 6744; omega⟩), htw _ mC_179, htw _ mC_256⟩ (kb_preV nnC_warm nnC_same hw hN 2 (wC_2 A G _) rfl) rfl rfl hl.1 rfl (lv_room (Nat.le_of_ble_eq_true rfl)) d_S_findBest_69 ⟨Nat.zero_le _, Nat.zero_le _⟩) hw (fun H locs hw => ?_)
            refine lv_aload_n hx hb d_S_findBest_72 rfl (lv_at hl 1 rfl) ?_
            refine lv_aload_n hx hb d_S_findBest_73 rfl (lv_at hl 1 rfl) ?_
            refine kb_get (own := "PileLifts$Search") (ref := "PileLifts$Search") (C := R_S) (T := F_S) (N := 10) hx hb htw i_S hown hw 2 (wC_2 A G _) rfl 2 (by decide) (htw _ mC_43) rfl rfl d_S_findBest_74 ?_
            refine lv_if_eq (tgt := 85) hx hb d_S_findBest_77 (by decide) (fun c => ?_) (fun c => ?_)
            · have h := kb_ip c h
              refine lv_iconst (v := 0) hx hb d_S_findBest_85 (by decide) ?_
              obtain ⟨M17, eM17, h⟩ := kb_st_some h
              refine kb_put (ws' := (wC A G M17)) (own := "PileLifts$Search") (ref := "PileLifts$Search") (C := R_S) (T := F_S) (N := 10) (ty := .int) hx hb htw i_S t_S t_S_ok n_S hown hw 2 (wC_2 A G _) rfl 6 (by decide) (htw _ mC_47) rfl rfl (by decide +kernel) rfl rfl (Nat.le_of_ble_eq_true rfl) d_S_findBest_86 (by rw [eM17]; rfl) (fun H locs hw => ?_)
              refine lv_iinc (v := (u4 + 1)) (lv' := [(4, .int (u4 + 1)), (5, .int (M14 2 6)), (0, .ref (A 2)), (1, .ref (A 1)), (3, .int u3)]) hx hb d_S_findBest_89 hl (k := 4) rfl rfl (by decide) rfl (fun ls hl => ?_)
              refine lv_goto (tgt := 22) hx hb d_S_findBest_92 (by decide) ?_
              exact ih u3 (u4 + 1) M17 _ _ _ h hw (lv_sub hl [2, 3, 4, 0] rfl)
            · have h := kb_in c h
              refine lv_iload hx hb d_S_findBest_80 (lv_at hl 0 rfl) ?_
              refine lv_goto (tgt := 86) hx hb d_S_findBest_82 (by decide) ?_
              obtain ⟨M18, eM18, h⟩ := kb_st_some h
              refine kb_put (ws' := (wC A G M18)) (own := "PileLifts$Search") (ref := "PileLifts$Search") (C := R_S) (T := F_S) (N := 10) (ty := .int) hx hb htw i_S t_S t_S_ok n_S hown hw 2 (wC_2 A G _) rfl 6 (by decide) (htw _ mC_47) rfl rfl (by decide +kernel) rfl rfl (Nat.le_of_ble_eq_true rfl) d_S_findBest_86 (by rw [eM18]; rfl) (fun H locs hw => ?_)
              refine lv_iinc (v := (u4 + 1)) (lv' := [(4, .int (u4 + 1)), (5, .int (M14 2 6)), (0, .ref (A 2)), (1, .ref (A 1)), (3, .int u3)]) hx hb d_S_findBest_89 hl (k := 4) rfl rfl (by decide) rfl (fun ls hl => ?_)
              refine lv_goto (tgt := 22) hx hb d_S_findBest_92 (by decide) ?_
              exact ih u3 (u4 + 1) M18 _ _ _ h hw (lv_sub hl [2, 3, 4, 0] rfl)
  have hl := lv_entry ([.ref (A 2), .ref (A 1), .int x2]) (n := 6) (Nat.le_of_ble_eq_true rfl)
  rw [lg_entry_eq]
  generalize (lg_sl ([.ref (A 2), .ref (A 1), .int x2]) ++ List.replicate (6 - (lg_sl ([.ref (A 2), .ref (A 1), .int x2])).length) Slot.unset).toArray = ls at hl ⊢
  have hl : lv_has ls 6 [(0, .ref (A 2)), (1, .ref (A 1)), (2, .int x2)] := hl
  rw [f_S_findBest] at h
  refine lv_aload_n hx hb d_S_findBest_0 rfl (lv_at hl 0 rfl) ?_
  obtain ⟨r1, M2, hc, h⟩ := kb_cl_some h
  refine kb_callv0 (va_runV (As := []) (rest := []) ⟨hx, hb, hml, hown, htw⟩ (c_S_forget l D A G M0 _ _ s.heap.size hc) ⟨(callB_of 0 htw (wsC_self mC_112) rfl rfl rfl (htw _ mC_2) (htw _ mC_151) q_S_forget ⟨by show 0 + 1 ≤ 337; omega, by show 8 + (1 + 11) + 0 ≤ 6744; omega⟩), htw _ mC_111, htw _ mC_237⟩ (kb_preV nnC_warm nnC_same hw hN 2 (wC_2 A G _) rfl) rfl rfl hl.1 rfl (lv_room (Nat.le_of_ble_eq_true rfl)) d_S_findBest_1 ⟨Nat.zero_le _, Nat.zero_le _⟩) hw (fun H locs hw => ?_)
  refine lv_aload_n hx hb d_S_findBest_4 rfl (lv_at hl 0 rfl) ?_
  refine lv_iload_n hx hb d_S_findBest_5 rfl (lv_at hl 2 rfl) ?_
  obtain ⟨M3, eM3, h⟩ := kb_st_some h
  refine kb_put (ws' := (wC A G M3)) (own := "PileLifts$Search") (ref := "PileLifts$Search") (C := R_S) (T := F_S) (N := 10) (ty := .int) hx hb htw i_S t_S t_S_ok n_S hown hw 2 (wC_2 A G _) rfl 4 (by decide) (htw _ mC_45) rfl rfl (by decide +kernel) rfl rfl (Nat.le_of_ble_eq_true rfl) d_S_findBest_6 (by rw [eM3]; rfl) (fun H locs hw => ?_)
  refine lv_aload_n hx hb d_S_findBest_9 rfl (lv_at hl 0 rfl) ?_
  refine lv_iconst (v := 0) hx hb d_S_findBest_10 (by decide) ?_
  obtain ⟨M4, eM4, h⟩ := kb_st_some h
  refine kb_put (ws' := (wC A G M4)) (own := "PileLifts$Search") (ref := "PileLifts$Search") (C := R_S) (T := F_S) (N := 10) (ty := .boolean) hx hb htw i_S t_S t_S_ok n_S hown hw 2 (wC_2 A G _) rfl 3 (by decide) (htw _ mC_44) rfl rfl (by decide +kernel) (kb_nz (Or.inl rfl)) (kb_fz (Or.inl rfl)) (Nat.le_of_ble_eq_true rfl) d_S_findBest_11 (by rw [eM4]; rfl) (fun H locs hw => ?_)
  refine lv_aload_n hx hb d_S_findBest_14 rfl (lv_at hl 1 rfl) ?_
  obtain ⟨r5, M6, hc, h⟩ := kb_cl_some h
  refine kb_calli0 (va_runVN (As := []) (rest := []) ⟨hx, hb, hml, hown, htw⟩ (c_Y_countBlocking l D A G M4 _ _ H.size hc) ⟨(va_cnB 0 htw (wsC_self mC_87) rfl rfl rfl (nm_S_44 hN) (htw _ mC_1) q_Y_countBlocking ⟨by show 3 + 1 ≤ 337; omega, by show 8 + (3 + 11) + 68 ≤ 6744; omega⟩), htw _ mC_86, htw _ mC_231⟩ (kb_preV nnC_warm nnC_same hw hN 1 (wC_1 A G _) rfl) rfl rfl hl.1 rfl (lv_room (Nat.le_of_ble_eq_true rfl)) d_S_findBest_15 ⟨Nat.zero_le _, Nat.zero_le _⟩) hw (fun H locs hw => ?_)
  refine lv_istore_n (lv' := [(3, .int r5), (0, .ref (A 2)), (1, .ref (A 1)), (2, .int x2)]) hx hb d_S_findBest_18 rfl hl (by decide) rfl (fun ls hl => ?_)
  refine lv_iload_n hx hb d_S_findBest_19 rfl (lv_at hl 0 rfl) ?_
  refine lv_istore (lv' := [(4, .int r5), (3, .int r5), (0, .ref (A 2)), (1, .ref (A 1)), (2, .int x2)]) hx hb d_S_findBest_20 hl (by decide) rfl (fun ls hl => ?_)
  exact loop_22 kb_F r5 r5 M6 _ _ _ h hw (lv_sub hl [2, 3, 1, 0] rfl)
def f_P_run (x1 : Int32) (M0 : Nat → Nat → Int32) : Option (Int32 × (Nat → Nat → Int32)) := kb_cl (f_P_isWithin x1 (0 : Int32) (100000 : Int32) M0) (fun r1 M2 => (if r1 = (0 : Int32) then none else kb_cl (f_S_findBest x1 M2) (fun r3 M4 => some (r3, M4))))
set_option maxHeartbeats 4000000 in
set_option maxRecDepth 100000 in
theorem c_P_run (l : Launch) (D : va_G) (A : Nat → Nat) (G : Nat → ClassId) (x1 : Int32) (M0 : Nat → Nat → Int32) (r : Int32) (M' : Nat → Nat → Int32) (sz : Nat) (h : f_P_run x1 M0 = some (r, M')) : kb_Ci l y_P_run (Cond.code y_P_run b_P_run 2 (some .int) :: wsC) { frames := 338, cells := 0, slots := 0, locals := 6769 } [.ref (A 0), .int x1] D kcl (tyC G) (wC A G M0) (wC A G M') nnC sz r := by
  refine Met.ofW (cc := b_P_run) (maxL := 2) (ret := (some .int)) (by decide) rfl ?_
  intro p e s m args below meth c s₁ B hml hv
  obtain ⟨rfl, hpre⟩ := hv
  obtain ⟨hw, hN⟩ := kb_enter hpre
  have hx := B.exec
  have hb := B.bytes
  have hr := B.returns
  have hts := atoms_spec (ws := (Cond.code y_P_run b_P_run 2 (some .int) :: wsC)) B.pre
  have htw : ∀ w ∈ wsC, w.before ([.ref (A 0), .int x1] : List Value).toArray s = true := fun w h => hts w (List.mem_cons_of_mem _ h)
  have hown : s.vm.findClass "PileLifts" = some m.cls := findClass_of_methodNamed B.named
  have hlocks := B.notSynchronized
  have hl := lv_entry ([.ref (A 0), .int x1]) (n := 2) (Nat.le_of_ble_eq_true rfl)
  rw [lg_entry_eq]
  generalize (lg_sl ([.ref (A 0), .int x1]) ++ List.replicate (2 - (lg_sl ([.ref (A 0), .int x1])).length) Slot.unset).toArray = ls at hl ⊢
  have hl : lv_has ls 2 [(0, .ref (A 0)), (1, .int x1)] := hl
  rw [f_P_run] at h
  refine lv_iload_n hx hb d_P_run_0 rfl (lv_at hl 1 rfl) ?_
  refine lv_iconst (v := 0) hx hb d_P_run_1 (by decide) ?_
  refine lv_ldc (v := 100000) hx hb hown (htw _ mC_148) d_P_run_2 ?_
  obtain ⟨r1, M2, hc, h⟩ := kb_cl_some h
  refine kb_calli0 (va_runS (As := [.int x1, .int (0 : Int32), .int (100000 : Int32)]) (rest := []) ⟨hx, hb, hml, hown, htw⟩ (c_P_isWithin l D A G x1 (0 : Int32) (100000 : Int32) M0 _ _ s.heap.size hc) ⟨(callB_of 3 htw (wsC_self mC_108) rfl rfl rfl (htw _ mC_0) (htw _ mC_106) q_P_isWithin ⟨by show 0 + 1 ≤ 338; omega, by show 8 + (3 + 11) + 0 ≤ 6769; omega⟩), htw _ mC_107⟩ (kb_preS nnC_warm nnC_same hw hN ) rfl rfl hl.1 rfl (lv_room (Nat.le_of_ble_eq_true rfl)) d_P_run_4 ⟨Nat.zero_le _, Nat.zero_le _⟩) hw (fun H locs hw => ?_)
  refine lv_if_ne (tgt := 20) hx hb d_P_run_7 (by decide) (fun c => ?_) (fun c => ?_)
  · have h := kb_in c h
    refine lv_aload_n hx hb d_P_run_20 rfl (lv_at hl 0 rfl) ?_
    refine kb_get (own := "PileLifts") (ref := "PileLifts") (C := R_P) (T := F_P) (N := 3) hx hb htw i_P hown hw 0 (wC_0 A G _) rfl 1 (by decide) (htw _ mC_78) rfl rfl d_P_run_21 ?_
    refine lv_aload_n hx hb d_P_run_24 rfl (lv_at hl 0 rfl) ?_
    refine kb_get (own := "PileLifts") (ref := "PileLifts") (C := R_P) (T := F_P) (N := 3) hx hb htw i_P hown hw 0 (wC_0 A G _) rfl 0 (by decide) (htw _ mC_77) rfl rfl d_P_run_25 ?_
    refine lv_iload_n hx hb d_P_run_28 rfl (lv_at hl 1 rfl) ?_
    obtain ⟨r3, M4, hc, h⟩ := kb_cl_some h
    refine kb_calli0 (va_runVN (As := [.ref (A 1), .int x1]) (rest := []) ⟨hx, hb, hml, hown, htw⟩ (c_S_findBest l D A G x1 M2 _ _ H.size hc) ⟨(va_cnB 2 htw (wsC_self mC_150) rfl rfl rfl (nm_P_106 hN) (htw _ mC_2) q_S_findBest ⟨by show 337 + 1 ≤ 338; omega, by show 8 + (6 + 11) + 6744 ≤ 6769; omega⟩), htw _ mC_149, htw _ mC_245⟩ (kb_preV nnC_warm nnC_same hw hN 2 (wC_2 A G _) rfl) rfl rfl hl.1 rfl (lv_room (Nat.le_of_ble_eq_true rfl)) d_P_run_29 ⟨Nat.zero_le _, Nat.zero_le _⟩) hw (fun H locs hw => ?_)
    obtain ⟨rfl, rfl⟩ := kb_rt h
    exact kb_iret hx hb hr hw hlocks d_P_run_32
  · have h := kb_ip c h
    exact absurd h (by simp)
def f_P_proved (M0 : Nat → Nat → Int32) : Option (Int32 × (Nat → Nat → Int32)) := (if (M0 2 0) = (0 : Int32) then none else kb_bz (M0 2 1) (some ((M0 2 1), M0)))
set_option maxHeartbeats 4000000 in
set_option maxRecDepth 100000 in
theorem c_P_proved (l : Launch) (D : va_G) (A : Nat → Nat) (G : Nat → ClassId) (M0 : Nat → Nat → Int32) (r : Int32) (M' : Nat → Nat → Int32) (sz : Nat) (h : f_P_proved M0 = some (r, M')) : kb_Ci l y_P_proved (Cond.code y_P_proved b_P_proved 1 (some .boolean) :: wsC) { frames := 0, cells := 0, slots := 0, locals := 0 } [.ref (A 0)] D kcl (tyC G) (wC A G M0) (wC A G M') nnC sz r := by
  refine Met.ofW (cc := b_P_proved) (maxL := 1) (ret := (some .boolean)) (by decide) rfl ?_
  intro p e s m args below meth c s₁ B hml hv
  obtain ⟨rfl, hpre⟩ := hv
  obtain ⟨hw, hN⟩ := kb_enter hpre
  have hx := B.exec
  have hb := B.bytes
  have hr := B.returns
  have hts := atoms_spec (ws := (Cond.code y_P_proved b_P_proved 1 (some .boolean) :: wsC)) B.pre
  have htw : ∀ w ∈ wsC, w.before ([.ref (A 0)] : List Value).toArray s = true := fun w h => hts w (List.mem_cons_of_mem _ h)
  have hown : s.vm.findClass "PileLifts" = some m.cls := findClass_of_methodNamed B.named
  have hlocks := B.notSynchronized
  have hl := lv_entry ([.ref (A 0)]) (n := 1) (Nat.le_of_ble_eq_true rfl)
  rw [lg_entry_eq]
  generalize (lg_sl ([.ref (A 0)]) ++ List.replicate (1 - (lg_sl ([.ref (A 0)])).length) Slot.unset).toArray = ls at hl ⊢
  have hl : lv_has ls 1 [(0, .ref (A 0))] := hl
  rw [f_P_proved] at h
  refine lv_aload_n hx hb d_P_proved_0 rfl (lv_at hl 0 rfl) ?_
  refine kb_get (own := "PileLifts") (ref := "PileLifts") (C := R_P) (T := F_P) (N := 3) hx hb htw i_P hown hw 0 (wC_0 A G _) rfl 1 (by decide) (htw _ mC_78) rfl rfl d_P_proved_1 ?_
  refine kb_getN (own := "PileLifts") (ref := "PileLifts$Search") (C := R_S) (T := F_S) (N := 10) hx hb htw i_S hown hw 2 (wC_2 A G _) rfl 0 (by decide) (va_Nw.use rfl (nf_P_110 hN)) rfl rfl d_P_proved_4 ?_
  refine lv_if_ne (tgt := 20) hx hb d_P_proved_7 (by decide) (fun c => ?_) (fun c => ?_)
  · have h := kb_in c h
    refine lv_aload_n hx hb d_P_proved_20 rfl (lv_at hl 0 rfl) ?_
    refine kb_get (own := "PileLifts") (ref := "PileLifts") (C := R_P) (T := F_P) (N := 3) hx hb htw i_P hown hw 0 (wC_0 A G _) rfl 1 (by decide) (htw _ mC_78) rfl rfl d_P_proved_21 ?_
    refine kb_getN (own := "PileLifts") (ref := "PileLifts$Search") (C := R_S) (T := F_S) (N := 10) hx hb htw i_S hown hw 2 (wC_2 A G _) rfl 1 (by decide) (va_Nw.use rfl (nf_P_116 hN)) rfl rfl d_P_proved_24 ?_
    obtain ⟨hz, h⟩ := kb_bz_some h
    obtain ⟨rfl, rfl⟩ := kb_rt h
    exact kb_zret hx hb hr hw hlocks hz d_P_proved_27
  · have h := kb_ip c h
    exact absurd h (by simp)
def f_P_checkPlan (M0 : Nat → Nat → Int32) : Option (Int32 × (Nat → Nat → Int32)) := (if (M0 2 2) = (0 : Int32) then none else some ((0 : Int32), M0))
set_option maxHeartbeats 4000000 in
set_option maxRecDepth 100000 in
theorem c_P_checkPlan (l : Launch) (D : va_G) (A : Nat → Nat) (G : Nat → ClassId) (M0 : Nat → Nat → Int32) (r : Int32) (M' : Nat → Nat → Int32) (sz : Nat) (h : f_P_checkPlan M0 = some (r, M')) : kb_Cv l y_P_checkPlan (Cond.code y_P_checkPlan b_P_checkPlan 1 none :: wsC) { frames := 0, cells := 0, slots := 0, locals := 0 } [.ref (A 0)] D kcl (tyC G) (wC A G M0) (wC A G M') nnC sz := by
  refine Met.ofW (cc := b_P_checkPlan) (maxL := 1) (ret := none) (by decide) rfl ?_
  intro p e s m args below meth c s₁ B hml hv
  obtain ⟨rfl, hpre⟩ := hv
  obtain ⟨hw, hN⟩ := kb_enter hpre
  have hx := B.exec
  have hb := B.bytes
  have hr := B.returns
  have hts := atoms_spec (ws := (Cond.code y_P_checkPlan b_P_checkPlan 1 none :: wsC)) B.pre
  have htw : ∀ w ∈ wsC, w.before ([.ref (A 0)] : List Value).toArray s = true := fun w h => hts w (List.mem_cons_of_mem _ h)
  have hown : s.vm.findClass "PileLifts" = some m.cls := findClass_of_methodNamed B.named
  have hlocks := B.notSynchronized
  have hl := lv_entry ([.ref (A 0)]) (n := 1) (Nat.le_of_ble_eq_true rfl)
  rw [lg_entry_eq]
  generalize (lg_sl ([.ref (A 0)]) ++ List.replicate (1 - (lg_sl ([.ref (A 0)])).length) Slot.unset).toArray = ls at hl ⊢
  have hl : lv_has ls 1 [(0, .ref (A 0))] := hl
  rw [f_P_checkPlan] at h
  refine lv_aload_n hx hb d_P_checkPlan_0 rfl (lv_at hl 0 rfl) ?_
  refine kb_get (own := "PileLifts") (ref := "PileLifts") (C := R_P) (T := F_P) (N := 3) hx hb htw i_P hown hw 0 (wC_0 A G _) rfl 1 (by decide) (htw _ mC_78) rfl rfl d_P_checkPlan_1 ?_
  refine kb_getN (own := "PileLifts") (ref := "PileLifts$Search") (C := R_S) (T := F_S) (N := 10) hx hb htw i_S hown hw 2 (wC_2 A G _) rfl 2 (by decide) (va_Nw.use rfl (nf_P_193 hN)) rfl rfl d_P_checkPlan_4 ?_
  refine lv_if_ne (tgt := 20) hx hb d_P_checkPlan_7 (by decide) (fun c => ?_) (fun c => ?_)
  · have h := kb_in c h
    obtain ⟨-, rfl⟩ := kb_rt h
    exact kb_vret hx hb hr hw hlocks d_P_checkPlan_20
  · have h := kb_ip c h
    exact absurd h (by simp)
def f_P_moves (M0 : Nat → Nat → Int32) : Option (Int32 × (Nat → Nat → Int32)) := kb_cl (f_P_checkPlan M0) (fun r1 M2 => some ((M2 2 6), M2))
set_option maxHeartbeats 4000000 in
set_option maxRecDepth 100000 in
theorem c_P_moves (l : Launch) (D : va_G) (A : Nat → Nat) (G : Nat → ClassId) (M0 : Nat → Nat → Int32) (r : Int32) (M' : Nat → Nat → Int32) (sz : Nat) (h : f_P_moves M0 = some (r, M')) : kb_Ci l y_P_moves (Cond.code y_P_moves b_P_moves 1 (some .int) :: wsC) { frames := 1, cells := 0, slots := 0, locals := 20 } [.ref (A 0)] D kcl (tyC G) (wC A G M0) (wC A G M') nnC sz r := by
  refine Met.ofW (cc := b_P_moves) (maxL := 1) (ret := (some .int)) (by decide) rfl ?_
  intro p e s m args below meth c s₁ B hml hv
  obtain ⟨rfl, hpre⟩ := hv
  obtain ⟨hw, hN⟩ := kb_enter hpre
  have hx := B.exec
  have hb := B.bytes
  have hr := B.returns
  have hts := atoms_spec (ws := (Cond.code y_P_moves b_P_moves 1 (some .int) :: wsC)) B.pre
  have htw : ∀ w ∈ wsC, w.before ([.ref (A 0)] : List Value).toArray s = true := fun w h => hts w (List.mem_cons_of_mem _ h)
  have hown : s.vm.findClass "PileLifts" = some m.cls := findClass_of_methodNamed B.named
  have hlocks := B.notSynchronized
  have hl := lv_entry ([.ref (A 0)]) (n := 1) (Nat.le_of_ble_eq_true rfl)
  rw [lg_entry_eq]
  generalize (lg_sl ([.ref (A 0)]) ++ List.replicate (1 - (lg_sl ([.ref (A 0)])).length) Slot.unset).toArray = ls at hl ⊢
  have hl : lv_has ls 1 [(0, .ref (A 0))] := hl
  rw [f_P_moves] at h
  refine lv_aload_n hx hb d_P_moves_0 rfl (lv_at hl 0 rfl) ?_
  obtain ⟨r1, M2, hc, h⟩ := kb_cl_some h
  refine kb_callv0 (va_runV (As := []) (rest := []) ⟨hx, hb, hml, hown, htw⟩ (c_P_checkPlan l D A G M0 _ _ s.heap.size hc) ⟨(callB_of 0 htw (wsC_self mC_192) rfl rfl rfl (htw _ mC_0) (htw _ mC_190) q_P_checkPlan ⟨by show 0 + 1 ≤ 1; omega, by show 8 + (1 + 11) + 0 ≤ 20; omega⟩), htw _ mC_191, htw _ mC_258⟩ (kb_preV nnC_warm nnC_same hw hN 0 (wC_0 A G _) rfl) rfl rfl hl.1 rfl (lv_room (Nat.le_of_ble_eq_true rfl)) d_P_moves_1 ⟨Nat.zero_le _, Nat.zero_le _⟩) hw (fun H locs hw => ?_)
  refine lv_aload_n hx hb d_P_moves_4 rfl (lv_at hl 0 rfl) ?_
  refine kb_get (own := "PileLifts") (ref := "PileLifts") (C := R_P) (T := F_P) (N := 3) hx hb htw i_P hown hw 0 (wC_0 A G _) rfl 1 (by decide) (htw _ mC_78) rfl rfl d_P_moves_5 ?_
  refine kb_getN (own := "PileLifts") (ref := "PileLifts$Search") (C := R_S) (T := F_S) (N := 10) hx hb htw i_S hown hw 2 (wC_2 A G _) rfl 6 (by decide) (va_Nw.use rfl (nf_P_122 hN)) rfl rfl d_P_moves_8 ?_
  obtain ⟨rfl, rfl⟩ := kb_rt h
  exact kb_iret hx hb hr hw hlocks d_P_moves_11
def f_P_move (x1 x2 : Int32) (M0 : Nat → Nat → Int32) : Option (Int32 × (Nat → Nat → Int32)) := kb_cl (f_P_isWithin x2 (0 : Int32) (1 : Int32) M0) (fun r1 M2 => (if r1 = (0 : Int32) then none else kb_cl (f_P_checkPlan M2) (fun r3 M4 => kb_cl (f_P_isWithin x1 (0 : Int32) ((M4 2 6) - (1 : Int32)) M4) (fun r5 M6 => (if r5 = (0 : Int32) then none else (if x2 = (0 : Int32) then kb_rd (M6 11) 22 x1 (fun v8 => some (v8, M6)) else kb_rd (M6 13) 22 x1 (fun v7 => some (v7, M6))))))))
set_option maxHeartbeats 4000000 in
set_option maxRecDepth 100000 in
theorem c_P_move (l : Launch) (D : va_G) (A : Nat → Nat) (G : Nat → ClassId) (x1 x2 : Int32) (M0 : Nat → Nat → Int32) (r : Int32) (M' : Nat → Nat → Int32) (sz : Nat) (h : f_P_move x1 x2 M0 = some (r, M')) : kb_Ci l y_P_move (Cond.code y_P_move b_P_move 3 (some .int) :: wsC) { frames := 1, cells := 0, slots := 0, locals := 22 } [.ref (A 0), .int x1, .int x2] D kcl (tyC G) (wC A G M0) (wC A G M') nnC sz r := by
  refine Met.ofW (cc := b_P_move) (maxL := 3) (ret := (some .int)) (by decide) rfl ?_
  intro p e s m args below meth c s₁ B hml hv
  obtain ⟨rfl, hpre⟩ := hv
  obtain ⟨hw, hN⟩ := kb_enter hpre
  have hx := B.exec
  have hb := B.bytes
  have hr := B.returns
  have hts := atoms_spec (ws := (Cond.code y_P_move b_P_move 3 (some .int) :: wsC)) B.pre
  have htw : ∀ w ∈ wsC, w.before ([.ref (A 0), .int x1, .int x2] : List Value).toArray s = true := fun w h => hts w (List.mem_cons_of_mem _ h)
  have hown : s.vm.findClass "PileLifts" = some m.cls := findClass_of_methodNamed B.named
  have hlocks := B.notSynchronized
  have hl := lv_entry ([.ref (A 0), .int x1, .int x2]) (n := 3) (Nat.le_of_ble_eq_true rfl)
  rw [lg_entry_eq]
  generalize (lg_sl ([.ref (A 0), .int x1, .int x2]) ++ List.replicate (3 - (lg_sl ([.ref (A 0), .int x1, .int x2])).length) Slot.unset).toArray = ls at hl ⊢
  have hl : lv_has ls 3 [(0, .ref (A 0)), (1, .int x1), (2, .int x2)] := hl
  rw [f_P_move] at h
  refine lv_iload_n hx hb d_P_move_0 rfl (lv_at hl 2 rfl) ?_
  refine lv_iconst (v := 0) hx hb d_P_move_1 (by decide) ?_
  refine lv_iconst (v := 1) hx hb d_P_move_2 (by decide) ?_
  obtain ⟨r1, M2, hc, h⟩ := kb_cl_some h
  refine kb_calli0 (va_runS (As := [.int x2, .int (0 : Int32), .int (1 : Int32)]) (rest := []) ⟨hx, hb, hml, hown, htw⟩ (c_P_isWithin l D A G x2 (0 : Int32) (1 : Int32) M0 _ _ s.heap.size hc) ⟨(callB_of 3 htw (wsC_self mC_108) rfl rfl rfl (htw _ mC_0) (htw _ mC_106) q_P_isWithin ⟨by show 0 + 1 ≤ 1; omega, by show 8 + (3 + 11) + 0 ≤ 22; omega⟩), htw _ mC_107⟩ (kb_preS nnC_warm nnC_same hw hN ) rfl rfl hl.1 rfl (lv_room (Nat.le_of_ble_eq_true rfl)) d_P_move_3 ⟨Nat.zero_le _, Nat.zero_le _⟩) hw (fun H locs hw => ?_)
  refine lv_if_ne (tgt := 19) hx hb d_P_move_6 (by decide) (fun c => ?_) (fun c => ?_)
  · have h := kb_in c h
    refine lv_aload_n hx hb d_P_move_19 rfl (lv_at hl 0 rfl) ?_
    obtain ⟨r3, M4, hc, h⟩ := kb_cl_some h
    refine kb_callv0 (va_runV (As := []) (rest := []) ⟨hx, hb, hml, hown, htw⟩ (c_P_checkPlan l D A G M2 _ _ H.size hc) ⟨(callB_of 0 htw (wsC_self mC_192) rfl rfl rfl (htw _ mC_0) (htw _ mC_190) q_P_checkPlan ⟨by show 0 + 1 ≤ 1; omega, by show 8 + (1 + 11) + 0 ≤ 22; omega⟩), htw _ mC_191, htw _ mC_258⟩ (kb_preV nnC_warm nnC_same hw hN 0 (wC_0 A G _) rfl) rfl rfl hl.1 rfl (lv_room (Nat.le_of_ble_eq_true rfl)) d_P_move_20 ⟨Nat.zero_le _, Nat.zero_le _⟩) hw (fun H locs hw => ?_)
    refine lv_iload_n hx hb d_P_move_23 rfl (lv_at hl 1 rfl) ?_
    refine lv_iconst (v := 0) hx hb d_P_move_24 (by decide) ?_
    refine lv_aload_n hx hb d_P_move_25 rfl (lv_at hl 0 rfl) ?_
    refine kb_get (own := "PileLifts") (ref := "PileLifts") (C := R_P) (T := F_P) (N := 3) hx hb htw i_P hown hw 0 (wC_0 A G _) rfl 1 (by decide) (htw _ mC_78) rfl rfl d_P_move_26 ?_
    refine kb_getN (own := "PileLifts") (ref := "PileLifts$Search") (C := R_S) (T := F_S) (N := 10) hx hb htw i_S hown hw 2 (wC_2 A G _) rfl 6 (by decide) (va_Nw.use rfl (nf_P_122 hN)) rfl rfl d_P_move_29 ?_
    refine lv_iconst (v := 1) hx hb d_P_move_32 (by decide) ?_
    refine lv_isub hx hb d_P_move_33 ?_
    obtain ⟨r5, M6, hc, h⟩ := kb_cl_some h
    refine kb_calli0 (va_runS (As := [.int x1, .int (0 : Int32), .int ((M4 2 6) - (1 : Int32))]) (rest := []) ⟨hx, hb, hml, hown, htw⟩ (c_P_isWithin l D A G x1 (0 : Int32) ((M4 2 6) - (1 : Int32)) M4 _ _ H.size hc) ⟨(callB_of 3 htw (wsC_self mC_108) rfl rfl rfl (htw _ mC_0) (htw _ mC_106) q_P_isWithin ⟨by show 0 + 1 ≤ 1; omega, by show 8 + (3 + 11) + 0 ≤ 22; omega⟩), htw _ mC_107⟩ (kb_preS nnC_warm nnC_same hw hN ) rfl rfl hl.1 rfl (lv_room (Nat.le_of_ble_eq_true rfl)) d_P_move_34 ⟨Nat.zero_le _, Nat.zero_le _⟩) hw (fun H locs hw => ?_)
    refine lv_if_ne (tgt := 50) hx hb d_P_move_37 (by decide) (fun c => ?_) (fun c => ?_)
    · have h := kb_in c h
      refine lv_iload_n hx hb d_P_move_50 rfl (lv_at hl 2 rfl) ?_
      refine lv_if_ne (tgt := 66) hx hb d_P_move_51 (by decide) (fun c => ?_) (fun c => ?_)
      · have h := kb_in c h
        refine lv_aload_n hx hb d_P_move_66 rfl (lv_at hl 0 rfl) ?_
        refine kb_get (own := "PileLifts") (ref := "PileLifts") (C := R_P) (T := F_P) (N := 3) hx hb htw i_P hown hw 0 (wC_0 A G _) rfl 1 (by decide) (htw _ mC_78) rfl rfl d_P_move_67 ?_
        refine kb_getN (own := "PileLifts") (ref := "PileLifts$Search") (C := R_S) (T := F_S) (N := 10) hx hb htw i_S hown hw 2 (wC_2 A G _) rfl 9 (by decide) (va_Nw.use rfl (nf_P_132 hN)) rfl rfl d_P_move_70 ?_
        refine lv_iload_n hx hb d_P_move_73 rfl (lv_at hl 1 rfl) ?_
        obtain ⟨v7, ev7, hi, h⟩ := kb_rd_some h
        refine kb_ald hx hb hw 13 9 rfl rfl hi ev7 d_P_move_74 ?_
        obtain ⟨rfl, rfl⟩ := kb_rt h
        exact kb_iret hx hb hr hw hlocks d_P_move_75
      · have h := kb_ip c h
        refine lv_aload_n hx hb d_P_move_54 rfl (lv_at hl 0 rfl) ?_
        refine kb_get (own := "PileLifts") (ref := "PileLifts") (C := R_P) (T := F_P) (N := 3) hx hb htw i_P hown hw 0 (wC_0 A G _) rfl 1 (by decide) (htw _ mC_78) rfl rfl d_P_move_55 ?_
        refine kb_getN (own := "PileLifts") (ref := "PileLifts$Search") (C := R_S) (T := F_S) (N := 10) hx hb htw i_S hown hw 2 (wC_2 A G _) rfl 7 (by decide) (va_Nw.use rfl (nf_P_129 hN)) rfl rfl d_P_move_58 ?_
        refine lv_iload_n hx hb d_P_move_61 rfl (lv_at hl 1 rfl) ?_
        obtain ⟨v8, ev8, hi, h⟩ := kb_rd_some h
        refine kb_ald hx hb hw 11 7 rfl rfl hi ev8 d_P_move_62 ?_
        refine lv_goto (tgt := 75) hx hb d_P_move_63 (by decide) ?_
        obtain ⟨rfl, rfl⟩ := kb_rt h
        exact kb_iret hx hb hr hw hlocks d_P_move_75
    · have h := kb_ip c h
      exact absurd h (by simp)
  · have h := kb_ip c h
    exact absurd h (by simp)
def h_S_doMoves_2 : Nat → Int32 → Int32 → (Nat → Nat → Int32) → Option (Int32 × (Nat → Nat → Int32))
  | 0, _, _, _ => none
  | n + 1, u2, u3, M => (if u2 ≤ u3 then some ((0 : Int32), M) else kb_rd (M 13) 22 u3 (fun v1 => (if v1 = (-1 : Int32) then kb_rd (M 11) 22 u3 (fun v6 => kb_cl (f_Y_takeOff v6 M) (fun r7 M8 => h_S_doMoves_2 n u2 (u3 + 1) M8)) else kb_rd (M 11) 22 u3 (fun v2 => kb_rd (M 13) 22 u3 (fun v3 => kb_cl (f_Y_relift v2 v3 M) (fun r4 M5 => h_S_doMoves_2 n u2 (u3 + 1) M5))))))
def f_S_doMoves (x2 : Int32) (M0 : Nat → Nat → Int32) : Option (Int32 × (Nat → Nat → Int32)) := h_S_doMoves_2 kb_F x2 (0 : Int32) M0
set_option maxHeartbeats 4000000 in
set_option maxRecDepth 100000 in
theorem c_S_doMoves (l : Launch) (D : va_G) (A : Nat → Nat) (G : Nat → ClassId) (x2 : Int32) (M0 : Nat → Nat → Int32) (r : Int32) (M' : Nat → Nat → Int32) (sz : Nat) (h : f_S_doMoves x2 M0 = some (r, M')) : kb_Cv l y_S_doMoves (Cond.code y_S_doMoves b_S_doMoves 4 none :: wsC) { frames := 2, cells := 0, slots := 0, locals := 45 } [.ref (A 2), .ref (A 1), .int x2] D kcl (tyC G) (wC A G M0) (wC A G M') nnC sz := by
  refine Met.ofW (cc := b_S_doMoves) (maxL := 4) (ret := none) (by decide) rfl ?_
  intro p e s m args below meth c s₁ B hml hv
  obtain ⟨rfl, hpre⟩ := hv
  obtain ⟨hw, hN⟩ := kb_enter hpre
  have hx := B.exec
  have hb := B.bytes
  have hr := B.returns
  have hts := atoms_spec (ws := (Cond.code y_S_doMoves b_S_doMoves 4 none :: wsC)) B.pre
  have htw : ∀ w ∈ wsC, w.before ([.ref (A 2), .ref (A 1), .int x2] : List Value).toArray s = true := fun w h => hts w (List.mem_cons_of_mem _ h)
  have hown : s.vm.findClass "PileLifts$Search" = some m.cls := findClass_of_methodNamed B.named
  have hlocks := B.notSynchronized
  have loop_2 : ∀ (n2 : Nat) (u2 u3 : Int32) (M : Nat → Nat → Int32) (H : Heap) (locs : List Loc) (ls : Array Slot), h_S_doMoves_2 n2 u2 u3 M = some (r, M') → kb_K D kcl (tyC G) (wC A G M) s (va_A (wC A G M0) sz) H locs → lv_has ls 4 [(0, .ref (A 2)), (1, .ref (A 1)), (2, .int u2), (3, .int u3)] → W p l e (headSpec (Cond.code y_S_doMoves b_S_doMoves 4 none :: wsC) { frames := 2, cells := 0, slots := 0, locals := 45 }).room s m ([.ref (A 2), .ref (A 1), .int x2] : List Value).toArray below meth c H locs 0 0 (kb_Qv D kcl (tyC G) (wC A G M0) (wC A G M') sz below ([.ref (A 2), .ref (A 1), .int x2] : List Value).toArray s) (F0 m 2 ls []) := by
    intro n2
    induction n2 with
    | zero =>
      intro u2 u3 M H locs ls h
      cases h
    | succ n2 ih =>
      intro u2 u3 M H locs ls h hw hl
      rw [h_S_doMoves_2] at h
      refine lv_iload_n hx hb d_S_doMoves_2 rfl (lv_at hl 3 rfl) ?_
      refine lv_iload_n hx hb d_S_doMoves_3 rfl (lv_at hl 2 rfl) ?_
      refine lv_icmp_ge (tgt := 52) hx hb d_S_doMoves_4 (by decide) (fun c => ?_) (fun c => ?_)
      · have h := kb_ip c h
        obtain ⟨-, rfl⟩ := kb_rt h
        exact kb_vret hx hb hr hw hlocks d_S_doMoves_52
      · have h := kb_in c h
        refine lv_aload_n hx hb d_S_doMoves_7 rfl (lv_at hl 0 rfl) ?_
        refine kb_get (own := "PileLifts$Search") (ref := "PileLifts$Search") (C := R_S) (T := F_S) (N := 10) hx hb htw i_S hown hw 2 (wC_2 A G _) rfl 9 (by decide) (htw _ mC_50) rfl rfl d_S_doMoves_8 ?_
        refine lv_iload_n hx hb d_S_doMoves_11 rfl (lv_at hl 3 rfl) ?_
        obtain ⟨v1, ev1, hi, h⟩ := kb_rd_some h
        refine kb_ald hx hb hw 13 9 rfl rfl hi ev1 d_S_doMoves_12 ?_
        refine lv_iconst (v := -1) hx hb d_S_doMoves_13 (by decide) ?_
        refine lv_icmp_ne (tgt := 30) hx hb d_S_doMoves_14 (by decide) (fun c => ?_) (fun c => ?_)
        · have h := kb_in c h
          refine lv_aload_n hx hb d_S_doMoves_30 rfl (lv_at hl 1 rfl) ?_
          refine lv_aload_n hx hb d_S_doMoves_31 rfl (lv_at hl 0 rfl) ?_
          refine kb_get (own := "PileLifts$Search") (ref := "PileLifts$Search") (C := R_S) (T := F_S) (N := 10) hx hb htw i_S hown hw 2 (wC_2 A G _) rfl 7 (by decide) (htw _ mC_48) rfl rfl d_S_doMoves_32 ?_
          refine lv_iload_n hx hb d_S_doMoves_35 rfl (lv_at hl 3 rfl) ?_
          obtain ⟨v2, ev2, hi, h⟩ := kb_rd_some h
          refine kb_ald hx hb hw 11 7 rfl rfl hi ev2 d_S_doMoves_36 ?_
          refine lv_aload_n hx hb d_S_doMoves_37 rfl (lv_at hl 0 rfl) ?_
          refine kb_get (own := "PileLifts$Search") (ref := "PileLifts$Search") (C := R_S) (T := F_S) (N := 10) hx hb htw i_S hown hw 2 (wC_2 A G _) rfl 9 (by decide) (htw _ mC_50) rfl rfl d_S_doMoves_38 ?_
          refine lv_iload_n hx hb d_S_doMoves_41 rfl (lv_at hl 3 rfl) ?_
          obtain ⟨v3, ev3, hi, h⟩ := kb_rd_some h
          refine kb_ald hx hb hw 13 9 rfl rfl hi ev3 d_S_doMoves_42 ?_
          obtain ⟨r4, M5, hc, h⟩ := kb_cl_some h
          refine kb_callv0 (va_runVN (As := [.int v2, .int v3]) (rest := []) ⟨hx, hb, hml, hown, htw⟩ (c_Y_relift l D A G v2 v3 M _ _ H.size hc) ⟨(va_cnB 2 htw (wsC_self mC_176) rfl rfl rfl (nm_S_107 hN) (htw _ mC_1) q_Y_relift ⟨by show 1 + 1 ≤ 2; omega, by show 8 + (3 + 11) + 23 ≤ 45; omega⟩), htw _ mC_175, htw _ mC_255⟩ (kb_preV nnC_warm nnC_same hw hN 1 (wC_1 A G _) rfl) rfl rfl hl.1 rfl (lv_room (Nat.le_of_ble_eq_true rfl)) d_S_doMoves_43 ⟨Nat.zero_le _, Nat.zero_le _⟩) hw (fun H locs hw => ?_)
          refine lv_iinc (v := (u3 + 1)) (lv' := [(3, .int (u3 + 1)), (0, .ref (A 2)), (1, .ref (A 1)), (2, .int u2)]) hx hb d_S_doMoves_46 hl (k := 3) rfl rfl (by decide) rfl (fun ls hl => ?_)
          refine lv_goto (tgt := 2) hx hb d_S_doMoves_49 (by decide) ?_
          exact ih u2 (u3 + 1) M5 _ _ _ h hw (lv_sub hl [1, 2, 3, 0] rfl)
        · have h := kb_ip c h
          refine lv_aload_n hx hb d_S_doMoves_17 rfl (lv_at hl 1 rfl) ?_
          refine lv_aload_n hx hb d_S_doMoves_18 rfl (lv_at hl 0 rfl) ?_
          refine kb_get (own := "PileLifts$Search") (ref := "PileLifts$Search") (C := R_S) (T := F_S) (N := 10) hx hb htw i_S hown hw 2 (wC_2 A G _) rfl 7 (by decide) (htw _ mC_48) rfl rfl d_S_doMoves_19 ?_
          refine lv_iload_n hx hb d_S_doMoves_22 rfl (lv_at hl 3 rfl) ?_
          obtain ⟨v6, ev6, hi, h⟩ := kb_rd_some h
          refine kb_ald hx hb hw 11 7 rfl rfl hi ev6 d_S_doMoves_23 ?_
          obtain ⟨r7, M8, hc, h⟩ := kb_cl_some h
          refine kb_callv0 (va_runVN (As := [.int v6]) (rest := []) ⟨hx, hb, hml, hown, htw⟩ (c_Y_takeOff l D A G v6 M _ _ H.size hc) ⟨(va_cnB 1 htw (wsC_self mC_166) rfl rfl rfl (nm_S_114 hN) (htw _ mC_1) q_Y_takeOff ⟨by show 0 + 1 ≤ 2; omega, by show 8 + (3 + 11) + 0 ≤ 45; omega⟩), htw _ mC_165, htw _ mC_251⟩ (kb_preV nnC_warm nnC_same hw hN 1 (wC_1 A G _) rfl) rfl rfl hl.1 rfl (lv_room (Nat.le_of_ble_eq_true rfl)) d_S_doMoves_24 ⟨Nat.zero_le _, Nat.zero_le _⟩) hw (fun H locs hw => ?_)
          refine lv_goto (tgt := 46) hx hb d_S_doMoves_27 (by decide) ?_
          refine lv_iinc (v := (u3 + 1)) (lv' := [(3, .int (u3 + 1)), (0, .ref (A 2)), (1, .ref (A 1)), (2, .int u2)]) hx hb d_S_doMoves_46 hl (k := 3) rfl rfl (by decide) rfl (fun ls hl => ?_)
          refine lv_goto (tgt := 2) hx hb d_S_doMoves_49 (by decide) ?_
          exact ih u2 (u3 + 1) M8 _ _ _ h hw (lv_sub hl [1, 2, 3, 0] rfl)
  have hl := lv_entry ([.ref (A 2), .ref (A 1), .int x2]) (n := 4) (Nat.le_of_ble_eq_true rfl)
  rw [lg_entry_eq]
  generalize (lg_sl ([.ref (A 2), .ref (A 1), .int x2]) ++ List.replicate (4 - (lg_sl ([.ref (A 2), .ref (A 1), .int x2])).length) Slot.unset).toArray = ls at hl ⊢
  have hl : lv_has ls 4 [(0, .ref (A 2)), (1, .ref (A 1)), (2, .int x2)] := hl
  rw [f_S_doMoves] at h
  refine lv_iconst (v := 0) hx hb d_S_doMoves_0 (by decide) ?_
  refine lv_istore_n (lv' := [(3, .int (0 : Int32)), (0, .ref (A 2)), (1, .ref (A 1)), (2, .int x2)]) hx hb d_S_doMoves_1 rfl hl (by decide) rfl (fun ls hl => ?_)
  exact loop_2 kb_F x2 (0 : Int32) M0 _ _ _ h hw (lv_sub hl [1, 2, 3, 0] rfl)
def h_Y_countGone_4 : Nat → Int32 → Int32 → (Nat → Nat → Int32) → Option (Int32 × (Nat → Nat → Int32))
  | 0, _, _, _ => none
  | n + 1, u1, u2, M => (if (M 1 2) ≤ u2 then some (u1, M) else kb_cl (f_Y_isGone u2 M) (fun r1 M2 => (if r1 = (0 : Int32) then h_Y_countGone_4 n u1 (u2 + 1) M2 else h_Y_countGone_4 n (u1 + 1) (u2 + 1) M2)))
def f_Y_countGone (M0 : Nat → Nat → Int32) : Option (Int32 × (Nat → Nat → Int32)) := h_Y_countGone_4 kb_F (0 : Int32) (0 : Int32) M0
set_option maxHeartbeats 4000000 in
set_option maxRecDepth 100000 in
theorem c_Y_countGone (l : Launch) (D : va_G) (A : Nat → Nat) (G : Nat → ClassId) (M0 : Nat → Nat → Int32) (r : Int32) (M' : Nat → Nat → Int32) (sz : Nat) (h : f_Y_countGone M0 = some (r, M')) : kb_Ci l y_Y_countGone (Cond.code y_Y_countGone b_Y_countGone 3 (some .int) :: wsC) { frames := 1, cells := 0, slots := 0, locals := 21 } [.ref (A 1)] D kcl (tyC G) (wC A G M0) (wC A G M') nnC sz r := by
  refine Met.ofW (cc := b_Y_countGone) (maxL := 3) (ret := (some .int)) (by decide) rfl ?_
  intro p e s m args below meth c s₁ B hml hv
  obtain ⟨rfl, hpre⟩ := hv
  obtain ⟨hw, hN⟩ := kb_enter hpre
  have hx := B.exec
  have hb := B.bytes
  have hr := B.returns
  have hts := atoms_spec (ws := (Cond.code y_Y_countGone b_Y_countGone 3 (some .int) :: wsC)) B.pre
  have htw : ∀ w ∈ wsC, w.before ([.ref (A 1)] : List Value).toArray s = true := fun w h => hts w (List.mem_cons_of_mem _ h)
  have hown : s.vm.findClass "PileLifts$Yard" = some m.cls := findClass_of_methodNamed B.named
  have hlocks := B.notSynchronized
  have loop_4 : ∀ (n4 : Nat) (u1 u2 : Int32) (M : Nat → Nat → Int32) (H : Heap) (locs : List Loc) (ls : Array Slot), h_Y_countGone_4 n4 u1 u2 M = some (r, M') → kb_K D kcl (tyC G) (wC A G M) s (va_A (wC A G M0) sz) H locs → lv_has ls 3 [(0, .ref (A 1)), (1, .int u1), (2, .int u2)] → W p l e (headSpec (Cond.code y_Y_countGone b_Y_countGone 3 (some .int) :: wsC) { frames := 1, cells := 0, slots := 0, locals := 21 }).room s m ([.ref (A 1)] : List Value).toArray below meth c H locs 0 0 (kb_Qi D kcl (tyC G) (wC A G M0) (wC A G M') sz r below ([.ref (A 1)] : List Value).toArray s) (F0 m 4 ls []) := by
    intro n4
    induction n4 with
    | zero =>
      intro u1 u2 M H locs ls h
      cases h
    | succ n4 ih =>
      intro u1 u2 M H locs ls h hw hl
      rw [h_Y_countGone_4] at h
      refine lv_iload_n hx hb d_Y_countGone_4 rfl (lv_at hl 2 rfl) ?_
      refine lv_aload_n hx hb d_Y_countGone_5 rfl (lv_at hl 0 rfl) ?_
      refine kb_get (own := "PileLifts$Yard") (ref := "PileLifts$Yard") (C := R_Y) (T := F_Y) (N := 10) hx hb htw i_Y hown hw 1 (wC_1 A G _) rfl 2 (by decide) (htw _ mC_18) rfl rfl d_Y_countGone_6 ?_
      refine lv_icmp_ge (tgt := 29) hx hb d_Y_countGone_9 (by decide) (fun c => ?_) (fun c => ?_)
      · have h := kb_ip c h
        refine lv_iload_n hx hb d_Y_countGone_29 rfl (lv_at hl 1 rfl) ?_
        obtain ⟨rfl, rfl⟩ := kb_rt h
        exact kb_iret hx hb hr hw hlocks d_Y_countGone_30
      · have h := kb_in c h
        refine lv_aload_n hx hb d_Y_countGone_12 rfl (lv_at hl 0 rfl) ?_
        refine lv_iload_n hx hb d_Y_countGone_13 rfl (lv_at hl 2 rfl) ?_
        obtain ⟨r1, M2, hc, h⟩ := kb_cl_some h
        refine kb_calli0 (va_runV (As := [.int u2]) (rest := []) ⟨hx, hb, hml, hown, htw⟩ (c_Y_isGone l D A G u2 M _ _ H.size hc) ⟨(callB_of 1 htw (wsC_self mC_93) rfl rfl rfl (htw _ mC_1) (htw _ mC_91) q_Y_isGone ⟨by show 0 + 1 ≤ 1; omega, by show 8 + (2 + 11) + 0 ≤ 21; omega⟩), htw _ mC_92, htw _ mC_233⟩ (kb_preV nnC_warm nnC_same hw hN 1 (wC_1 A G _) rfl) rfl rfl hl.1 rfl (lv_room (Nat.le_of_ble_eq_true rfl)) d_Y_countGone_14 ⟨Nat.zero_le _, Nat.zero_le _⟩) hw (fun H locs hw => ?_)
        refine lv_if_eq (tgt := 23) hx hb d_Y_countGone_17 (by decide) (fun c => ?_) (fun c => ?_)
        · have h := kb_ip c h
          refine lv_iinc (v := (u2 + 1)) (lv' := [(2, .int (u2 + 1)), (0, .ref (A 1)), (1, .int u1)]) hx hb d_Y_countGone_23 hl (k := 2) rfl rfl (by decide) rfl (fun ls hl => ?_)
          refine lv_goto (tgt := 4) hx hb d_Y_countGone_26 (by decide) ?_
          exact ih u1 (u2 + 1) M2 _ _ _ h hw (lv_sub hl [1, 2, 0] rfl)
        · have h := kb_in c h
          refine lv_iinc (v := (u1 + 1)) (lv' := [(1, .int (u1 + 1)), (0, .ref (A 1)), (2, .int u2)]) hx hb d_Y_countGone_20 hl (k := 1) rfl rfl (by decide) rfl (fun ls hl => ?_)
          refine lv_iinc (v := (u2 + 1)) (lv' := [(2, .int (u2 + 1)), (1, .int (u1 + 1)), (0, .ref (A 1))]) hx hb d_Y_countGone_23 hl (k := 2) rfl rfl (by decide) rfl (fun ls hl => ?_)
          refine lv_goto (tgt := 4) hx hb d_Y_countGone_26 (by decide) ?_
          exact ih (u1 + 1) (u2 + 1) M2 _ _ _ h hw (lv_sub hl [2, 1, 0] rfl)
  have hl := lv_entry ([.ref (A 1)]) (n := 3) (Nat.le_of_ble_eq_true rfl)
  rw [lg_entry_eq]
  generalize (lg_sl ([.ref (A 1)]) ++ List.replicate (3 - (lg_sl ([.ref (A 1)])).length) Slot.unset).toArray = ls at hl ⊢
  have hl : lv_has ls 3 [(0, .ref (A 1))] := hl
  rw [f_Y_countGone] at h
  refine lv_iconst (v := 0) hx hb d_Y_countGone_0 (by decide) ?_
  refine lv_istore_n (lv' := [(1, .int (0 : Int32)), (0, .ref (A 1))]) hx hb d_Y_countGone_1 rfl hl (by decide) rfl (fun ls hl => ?_)
  refine lv_iconst (v := 0) hx hb d_Y_countGone_2 (by decide) ?_
  refine lv_istore_n (lv' := [(2, .int (0 : Int32)), (1, .int (0 : Int32)), (0, .ref (A 1))]) hx hb d_Y_countGone_3 rfl hl (by decide) rfl (fun ls hl => ?_)
  exact loop_4 kb_F (0 : Int32) (0 : Int32) M0 _ _ _ h hw (lv_sub hl [2, 1, 0] rfl)
def f_P_replay (x1 : Int32) (M0 : Nat → Nat → Int32) : Option (Int32 × (Nat → Nat → Int32)) := kb_cl (f_P_checkPlan M0) (fun r1 M2 => kb_cl (f_P_isWithin x1 (0 : Int32) (M2 2 6) M2) (fun r3 M4 => (if r3 = (0 : Int32) then none else kb_cl (f_S_doMoves x1 M4) (fun r5 M6 => kb_cl (f_S_forget M6) (fun r7 M8 => kb_cl (f_Y_countGone M8) (fun r9 M10 => some (r9, M10)))))))
set_option maxHeartbeats 4000000 in
set_option maxRecDepth 100000 in
theorem c_P_replay (l : Launch) (D : va_G) (A : Nat → Nat) (G : Nat → ClassId) (x1 : Int32) (M0 : Nat → Nat → Int32) (r : Int32) (M' : Nat → Nat → Int32) (sz : Nat) (h : f_P_replay x1 M0 = some (r, M')) : kb_Ci l y_P_replay (Cond.code y_P_replay b_P_replay 2 (some .int) :: wsC) { frames := 3, cells := 0, slots := 0, locals := 68 } [.ref (A 0), .int x1] D kcl (tyC G) (wC A G M0) (wC A G M') nnC sz r := by
  refine Met.ofW (cc := b_P_replay) (maxL := 2) (ret := (some .int)) (by decide) rfl ?_
  intro p e s m args below meth c s₁ B hml hv
  obtain ⟨rfl, hpre⟩ := hv
  obtain ⟨hw, hN⟩ := kb_enter hpre
  have hx := B.exec
  have hb := B.bytes
  have hr := B.returns
  have hts := atoms_spec (ws := (Cond.code y_P_replay b_P_replay 2 (some .int) :: wsC)) B.pre
  have htw : ∀ w ∈ wsC, w.before ([.ref (A 0), .int x1] : List Value).toArray s = true := fun w h => hts w (List.mem_cons_of_mem _ h)
  have hown : s.vm.findClass "PileLifts" = some m.cls := findClass_of_methodNamed B.named
  have hlocks := B.notSynchronized
  have hl := lv_entry ([.ref (A 0), .int x1]) (n := 2) (Nat.le_of_ble_eq_true rfl)
  rw [lg_entry_eq]
  generalize (lg_sl ([.ref (A 0), .int x1]) ++ List.replicate (2 - (lg_sl ([.ref (A 0), .int x1])).length) Slot.unset).toArray = ls at hl ⊢
  have hl : lv_has ls 2 [(0, .ref (A 0)), (1, .int x1)] := hl
  rw [f_P_replay] at h
  refine lv_aload_n hx hb d_P_replay_0 rfl (lv_at hl 0 rfl) ?_
  obtain ⟨r1, M2, hc, h⟩ := kb_cl_some h
  refine kb_callv0 (va_runV (As := []) (rest := []) ⟨hx, hb, hml, hown, htw⟩ (c_P_checkPlan l D A G M0 _ _ s.heap.size hc) ⟨(callB_of 0 htw (wsC_self mC_192) rfl rfl rfl (htw _ mC_0) (htw _ mC_190) q_P_checkPlan ⟨by show 0 + 1 ≤ 3; omega, by show 8 + (1 + 11) + 0 ≤ 68; omega⟩), htw _ mC_191, htw _ mC_258⟩ (kb_preV nnC_warm nnC_same hw hN 0 (wC_0 A G _) rfl) rfl rfl hl.1 rfl (lv_room (Nat.le_of_ble_eq_true rfl)) d_P_replay_1 ⟨Nat.zero_le _, Nat.zero_le _⟩) hw (fun H locs hw => ?_)
  refine lv_iload_n hx hb d_P_replay_4 rfl (lv_at hl 1 rfl) ?_
  refine lv_iconst (v := 0) hx hb d_P_replay_5 (by decide) ?_
  refine lv_aload_n hx hb d_P_replay_6 rfl (lv_at hl 0 rfl) ?_
  refine kb_get (own := "PileLifts") (ref := "PileLifts") (C := R_P) (T := F_P) (N := 3) hx hb htw i_P hown hw 0 (wC_0 A G _) rfl 1 (by decide) (htw _ mC_78) rfl rfl d_P_replay_7 ?_
  refine kb_getN (own := "PileLifts") (ref := "PileLifts$Search") (C := R_S) (T := F_S) (N := 10) hx hb htw i_S hown hw 2 (wC_2 A G _) rfl 6 (by decide) (va_Nw.use rfl (nf_P_122 hN)) rfl rfl d_P_replay_10 ?_
  obtain ⟨r3, M4, hc, h⟩ := kb_cl_some h
  refine kb_calli0 (va_runS (As := [.int x1, .int (0 : Int32), .int (M2 2 6)]) (rest := []) ⟨hx, hb, hml, hown, htw⟩ (c_P_isWithin l D A G x1 (0 : Int32) (M2 2 6) M2 _ _ H.size hc) ⟨(callB_of 3 htw (wsC_self mC_108) rfl rfl rfl (htw _ mC_0) (htw _ mC_106) q_P_isWithin ⟨by show 0 + 1 ≤ 3; omega, by show 8 + (3 + 11) + 0 ≤ 68; omega⟩), htw _ mC_107⟩ (kb_preS nnC_warm nnC_same hw hN ) rfl rfl hl.1 rfl (lv_room (Nat.le_of_ble_eq_true rfl)) d_P_replay_13 ⟨Nat.zero_le _, Nat.zero_le _⟩) hw (fun H locs hw => ?_)
  refine lv_if_ne (tgt := 29) hx hb d_P_replay_16 (by decide) (fun c => ?_) (fun c => ?_)
  · have h := kb_in c h
    refine lv_aload_n hx hb d_P_replay_29 rfl (lv_at hl 0 rfl) ?_
    refine kb_get (own := "PileLifts") (ref := "PileLifts") (C := R_P) (T := F_P) (N := 3) hx hb htw i_P hown hw 0 (wC_0 A G _) rfl 1 (by decide) (htw _ mC_78) rfl rfl d_P_replay_30 ?_
    refine lv_aload_n hx hb d_P_replay_33 rfl (lv_at hl 0 rfl) ?_
    refine kb_get (own := "PileLifts") (ref := "PileLifts") (C := R_P) (T := F_P) (N := 3) hx hb htw i_P hown hw 0 (wC_0 A G _) rfl 0 (by decide) (htw _ mC_77) rfl rfl d_P_replay_34 ?_
    refine lv_iload_n hx hb d_P_replay_37 rfl (lv_at hl 1 rfl) ?_
    obtain ⟨r5, M6, hc, h⟩ := kb_cl_some h
    refine kb_callv0 (va_runVN (As := [.ref (A 1), .int x1]) (rest := []) ⟨hx, hb, hml, hown, htw⟩ (c_S_doMoves l D A G x1 M4 _ _ H.size hc) ⟨(va_cnB 2 htw (wsC_self mC_200) rfl rfl rfl (nm_P_137 hN) (htw _ mC_2) q_S_doMoves ⟨by show 2 + 1 ≤ 3; omega, by show 8 + (4 + 11) + 45 ≤ 68; omega⟩), htw _ mC_199, htw _ mC_259⟩ (kb_preV nnC_warm nnC_same hw hN 2 (wC_2 A G _) rfl) rfl rfl hl.1 rfl (lv_room (Nat.le_of_ble_eq_true rfl)) d_P_replay_38 ⟨Nat.zero_le _, Nat.zero_le _⟩) hw (fun H locs hw => ?_)
    refine lv_aload_n hx hb d_P_replay_41 rfl (lv_at hl 0 rfl) ?_
    refine kb_get (own := "PileLifts") (ref := "PileLifts") (C := R_P) (T := F_P) (N := 3) hx hb htw i_P hown hw 0 (wC_0 A G _) rfl 1 (by decide) (htw _ mC_78) rfl rfl d_P_replay_42 ?_
    obtain ⟨r7, M8, hc, h⟩ := kb_cl_some h
    refine kb_callv0 (va_runVN (As := []) (rest := []) ⟨hx, hb, hml, hown, htw⟩ (c_S_forget l D A G M6 _ _ H.size hc) ⟨(va_cnB 0 htw (wsC_self mC_112) rfl rfl rfl (nm_P_47 hN) (htw _ mC_2) q_S_forget ⟨by show 0 + 1 ≤ 3; omega, by show 8 + (1 + 11) + 0 ≤ 68; omega⟩), htw _ mC_111, htw _ mC_237⟩ (kb_preV nnC_warm nnC_same hw hN 2 (wC_2 A G _) rfl) rfl rfl hl.1 rfl (lv_room (Nat.le_of_ble_eq_true rfl)) d_P_replay_45 ⟨Nat.zero_le _, Nat.zero_le _⟩) hw (fun H locs hw => ?_)
    refine lv_aload_n hx hb d_P_replay_48 rfl (lv_at hl 0 rfl) ?_
    refine kb_get (own := "PileLifts") (ref := "PileLifts") (C := R_P) (T := F_P) (N := 3) hx hb htw i_P hown hw 0 (wC_0 A G _) rfl 0 (by decide) (htw _ mC_77) rfl rfl d_P_replay_49 ?_
    obtain ⟨r9, M10, hc, h⟩ := kb_cl_some h
    refine kb_calli0 (va_runVN (As := []) (rest := []) ⟨hx, hb, hml, hown, htw⟩ (c_Y_countGone l D A G M8 _ _ H.size hc) ⟨(va_cnB 0 htw (wsC_self mC_202) rfl rfl rfl (nm_P_141 hN) (htw _ mC_1) q_Y_countGone ⟨by show 1 + 1 ≤ 3; omega, by show 8 + (3 + 11) + 21 ≤ 68; omega⟩), htw _ mC_201, htw _ mC_260⟩ (kb_preV nnC_warm nnC_same hw hN 1 (wC_1 A G _) rfl) rfl rfl hl.1 rfl (lv_room (Nat.le_of_ble_eq_true rfl)) d_P_replay_52 ⟨Nat.zero_le _, Nat.zero_le _⟩) hw (fun H locs hw => ?_)
    obtain ⟨rfl, rfl⟩ := kb_rt h
    exact kb_iret hx hb hr hw hlocks d_P_replay_55
  · have h := kb_ip c h
    exact absurd h (by simp)
def f_P_at (x1 x2 : Int32) (M0 : Nat → Nat → Int32) : Option (Int32 × (Nat → Nat → Int32)) := kb_cl (f_P_checkPiece x1 M0) (fun r1 M2 => (if x2 = (0 : Int32) then kb_rd (M2 9) 10 x1 (fun v3 => some (v3, M2)) else (if x2 = (1 : Int32) then kb_rd (M2 10) 10 x1 (fun v4 => some (v4, M2)) else (if x2 = (2 : Int32) then kb_cl (f_Y_isBlocking x1 M2) (fun r5 M6 => (if r5 = (0 : Int32) then some ((0 : Int32), M6) else some ((1 : Int32), M6))) else (if x2 = (3 : Int32) then kb_rd (M2 8) 10 x1 (fun v7 => some (v7, M2)) else (if x2 = (4 : Int32) then kb_rd (M2 16) 10 x1 (fun v8 => some (v8, M2)) else none))))))
set_option maxHeartbeats 4000000 in
set_option maxRecDepth 100000 in
theorem c_P_at (l : Launch) (D : va_G) (A : Nat → Nat) (G : Nat → ClassId) (x1 x2 : Int32) (M0 : Nat → Nat → Int32) (r : Int32) (M' : Nat → Nat → Int32) (sz : Nat) (h : f_P_at x1 x2 M0 = some (r, M')) : kb_Ci l y_P_at (Cond.code y_P_at b_P_at 3 (some .int) :: wsC) { frames := 3, cells := 0, slots := 0, locals := 68 } [.ref (A 0), .int x1, .int x2] D kcl (tyC G) (wC A G M0) (wC A G M') nnC sz r := by
  refine Met.ofW (cc := b_P_at) (maxL := 3) (ret := (some .int)) (by decide) rfl ?_
  intro p e s m args below meth c s₁ B hml hv
  obtain ⟨rfl, hpre⟩ := hv
  obtain ⟨hw, hN⟩ := kb_enter hpre
  have hx := B.exec
  have hb := B.bytes
  have hr := B.returns
  have hts := atoms_spec (ws := (Cond.code y_P_at b_P_at 3 (some .int) :: wsC)) B.pre
  have htw : ∀ w ∈ wsC, w.before ([.ref (A 0), .int x1, .int x2] : List Value).toArray s = true := fun w h => hts w (List.mem_cons_of_mem _ h)
  have hown : s.vm.findClass "PileLifts" = some m.cls := findClass_of_methodNamed B.named
  have hlocks := B.notSynchronized
  have hl := lv_entry ([.ref (A 0), .int x1, .int x2]) (n := 3) (Nat.le_of_ble_eq_true rfl)
  rw [lg_entry_eq]
  generalize (lg_sl ([.ref (A 0), .int x1, .int x2]) ++ List.replicate (3 - (lg_sl ([.ref (A 0), .int x1, .int x2])).length) Slot.unset).toArray = ls at hl ⊢
  have hl : lv_has ls 3 [(0, .ref (A 0)), (1, .int x1), (2, .int x2)] := hl
  rw [f_P_at] at h
  refine lv_aload_n hx hb d_P_at_0 rfl (lv_at hl 0 rfl) ?_
  refine lv_iload_n hx hb d_P_at_1 rfl (lv_at hl 1 rfl) ?_
  obtain ⟨r1, M2, hc, h⟩ := kb_cl_some h
  refine kb_callv0 (va_runV (As := [.int x1]) (rest := []) ⟨hx, hb, hml, hown, htw⟩ (c_P_checkPiece l D A G x1 M0 _ _ s.heap.size hc) ⟨(callB_of 1 htw (wsC_self mC_137) rfl rfl rfl (htw _ mC_0) (htw _ mC_135) q_P_checkPiece ⟨by show 2 + 1 ≤ 3; omega, by show 8 + (2 + 11) + 43 ≤ 68; omega⟩), htw _ mC_136, htw _ mC_243⟩ (kb_preV nnC_warm nnC_same hw hN 0 (wC_0 A G _) rfl) rfl rfl hl.1 rfl (lv_room (Nat.le_of_ble_eq_true rfl)) d_P_at_2 ⟨Nat.zero_le _, Nat.zero_le _⟩) hw (fun H locs hw => ?_)
  refine lv_iload_n hx hb d_P_at_5 rfl (lv_at hl 2 rfl) ?_
  by_cases c0 : x2 = (0 : Int32)
  · have h := kb_ip c0 h
    refine lv_tableIn (tgt := 40) (off := 34) hx hb d_P_at_6 (by rw [c0]; decide) (by rw [c0]; decide) (by rw [c0]; rfl) (by decide) ?_
    refine lv_aload_n hx hb d_P_at_40 rfl (lv_at hl 0 rfl) ?_
    refine kb_get (own := "PileLifts") (ref := "PileLifts") (C := R_P) (T := F_P) (N := 3) hx hb htw i_P hown hw 0 (wC_0 A G _) rfl 0 (by decide) (htw _ mC_77) rfl rfl d_P_at_41 ?_
    refine kb_getN (own := "PileLifts") (ref := "PileLifts$Yard") (C := R_Y) (T := F_Y) (N := 10) hx hb htw i_Y hown hw 1 (wC_1 A G _) rfl 8 (by decide) (va_Nw.use rfl (nf_P_144 hN)) rfl rfl d_P_at_44 ?_
    refine lv_iload_n hx hb d_P_at_47 rfl (lv_at hl 1 rfl) ?_
    obtain ⟨v3, ev3, hi, h⟩ := kb_rd_some h
    refine kb_ald hx hb hw 9 5 rfl rfl hi ev3 d_P_at_48 ?_
    obtain ⟨rfl, rfl⟩ := kb_rt h
    exact kb_iret hx hb hr hw hlocks d_P_at_49
  · have h := kb_in c0 h
    by_cases c1 : x2 = (1 : Int32)
    · have h := kb_ip c1 h
      refine lv_tableIn (tgt := 50) (off := 44) hx hb d_P_at_6 (by rw [c1]; decide) (by rw [c1]; decide) (by rw [c1]; rfl) (by decide) ?_
      refine lv_aload_n hx hb d_P_at_50 rfl (lv_at hl 0 rfl) ?_
      refine kb_get (own := "PileLifts") (ref := "PileLifts") (C := R_P) (T := F_P) (N := 3) hx hb htw i_P hown hw 0 (wC_0 A G _) rfl 0 (by decide) (htw _ mC_77) rfl rfl d_P_at_51 ?_
      refine kb_getN (own := "PileLifts") (ref := "PileLifts$Yard") (C := R_Y) (T := F_Y) (N := 10) hx hb htw i_Y hown hw 1 (wC_1 A G _) rfl 9 (by decide) (va_Nw.use rfl (nf_P_147 hN)) rfl rfl d_P_at_54 ?_
      refine lv_iload_n hx hb d_P_at_57 rfl (lv_at hl 1 rfl) ?_
      obtain ⟨v4, ev4, hi, h⟩ := kb_rd_some h
      refine kb_ald hx hb hw 10 6 rfl rfl hi ev4 d_P_at_58 ?_
      obtain ⟨rfl, rfl⟩ := kb_rt h
      exact kb_iret hx hb hr hw hlocks d_P_at_59
    · have h := kb_in c1 h
      by_cases c2 : x2 = (2 : Int32)
      · have h := kb_ip c2 h
        refine lv_tableIn (tgt := 60) (off := 54) hx hb d_P_at_6 (by rw [c2]; decide) (by rw [c2]; decide) (by rw [c2]; rfl) (by decide) ?_
        refine lv_aload_n hx hb d_P_at_60 rfl (lv_at hl 0 rfl) ?_
        refine kb_get (own := "PileLifts") (ref := "PileLifts") (C := R_P) (T := F_P) (N := 3) hx hb htw i_P hown hw 0 (wC_0 A G _) rfl 0 (by decide) (htw _ mC_77) rfl rfl d_P_at_61 ?_
        refine lv_iload_n hx hb d_P_at_64 rfl (lv_at hl 1 rfl) ?_
        obtain ⟨r5, M6, hc, h⟩ := kb_cl_some h
        refine kb_calli0 (va_runVN (As := [.int x1]) (rest := []) ⟨hx, hb, hml, hown, htw⟩ (c_Y_isBlocking l D A G x1 M2 _ _ H.size hc) ⟨(va_cnB 1 htw (wsC_self mC_90) rfl rfl rfl (nm_P_150 hN) (htw _ mC_1) q_Y_isBlocking ⟨by show 2 + 1 ≤ 3; omega, by show 8 + (2 + 11) + 47 ≤ 68; omega⟩), htw _ mC_89, htw _ mC_232⟩ (kb_preV nnC_warm nnC_same hw hN 1 (wC_1 A G _) rfl) rfl rfl hl.1 rfl (lv_room (Nat.le_of_ble_eq_true rfl)) d_P_at_65 ⟨Nat.zero_le _, Nat.zero_le _⟩) hw (fun H locs hw => ?_)
        refine lv_if_eq (tgt := 75) hx hb d_P_at_68 (by decide) (fun c => ?_) (fun c => ?_)
        · have h := kb_ip c h
          refine lv_iconst (v := 0) hx hb d_P_at_75 (by decide) ?_
          obtain ⟨rfl, rfl⟩ := kb_rt h
          exact kb_iret hx hb hr hw hlocks d_P_at_76
        · have h := kb_in c h
          refine lv_iconst (v := 1) hx hb d_P_at_71 (by decide) ?_
          refine lv_goto (tgt := 76) hx hb d_P_at_72 (by decide) ?_
          obtain ⟨rfl, rfl⟩ := kb_rt h
          exact kb_iret hx hb hr hw hlocks d_P_at_76
      · have h := kb_in c2 h
        by_cases c3 : x2 = (3 : Int32)
        · have h := kb_ip c3 h
          refine lv_tableIn (tgt := 77) (off := 71) hx hb d_P_at_6 (by rw [c3]; decide) (by rw [c3]; decide) (by rw [c3]; rfl) (by decide) ?_
          refine lv_aload_n hx hb d_P_at_77 rfl (lv_at hl 0 rfl) ?_
          refine kb_get (own := "PileLifts") (ref := "PileLifts") (C := R_P) (T := F_P) (N := 3) hx hb htw i_P hown hw 0 (wC_0 A G _) rfl 0 (by decide) (htw _ mC_77) rfl rfl d_P_at_78 ?_
          refine kb_getN (own := "PileLifts") (ref := "PileLifts$Yard") (C := R_Y) (T := F_Y) (N := 10) hx hb htw i_Y hown hw 1 (wC_1 A G _) rfl 7 (by decide) (va_Nw.use rfl (nf_P_92 hN)) rfl rfl d_P_at_81 ?_
          refine lv_iload_n hx hb d_P_at_84 rfl (lv_at hl 1 rfl) ?_
          obtain ⟨v7, ev7, hi, h⟩ := kb_rd_some h
          refine kb_ald hx hb hw 8 4 rfl rfl hi ev7 d_P_at_85 ?_
          obtain ⟨rfl, rfl⟩ := kb_rt h
          exact kb_iret hx hb hr hw hlocks d_P_at_86
        · have h := kb_in c3 h
          by_cases c4 : x2 = (4 : Int32)
          · have h := kb_ip c4 h
            refine lv_tableIn (tgt := 87) (off := 81) hx hb d_P_at_6 (by rw [c4]; decide) (by rw [c4]; decide) (by rw [c4]; rfl) (by decide) ?_
            refine lv_aload_n hx hb d_P_at_87 rfl (lv_at hl 0 rfl) ?_
            refine kb_get (own := "PileLifts") (ref := "PileLifts") (C := R_P) (T := F_P) (N := 3) hx hb htw i_P hown hw 0 (wC_0 A G _) rfl 2 (by decide) (htw _ mC_79) rfl rfl d_P_at_88 ?_
            refine kb_getN (own := "PileLifts") (ref := "PileLifts$Wagons") (C := R_W) (T := F_W) (N := 4) hx hb htw i_W hown hw 3 (wC_3 A G _) rfl 3 (by decide) (va_Nw.use rfl (nf_P_153 hN)) rfl rfl d_P_at_91 ?_
            refine lv_iload_n hx hb d_P_at_94 rfl (lv_at hl 1 rfl) ?_
            obtain ⟨v8, ev8, hi, h⟩ := kb_rd_some h
            refine kb_ald hx hb hw 16 12 rfl rfl hi ev8 d_P_at_95 ?_
            obtain ⟨rfl, rfl⟩ := kb_rt h
            exact kb_iret hx hb hr hw hlocks d_P_at_96
          · have h := kb_in c4 h
            refine lv_tableOut (tgt := 97) hx hb d_P_at_6 (by have a0 := lv_neT c0 (a := 0) rfl; have a1 := lv_neT c1 (a := 1) rfl; have a2 := lv_neT c2 (a := 2) rfl; have a3 := lv_neT c3 (a := 3) rfl; have a4 := lv_neT c4 (a := 4) rfl; omega) (by decide) ?_
            exact absurd h (by simp)
def h_Y_tidyPlaceFor_2 : Nat → Int32 → Int32 → (Nat → Nat → Int32) → Option (Int32 × (Nat → Nat → Int32))
  | 0, _, _, _ => none
  | n + 1, u1, u2, M => (if (M 1 0) ≤ u2 then some ((-1 : Int32), M) else kb_rd (M 9) 10 u1 (fun v1 => (if u2 = v1 then h_Y_tidyPlaceFor_2 n u1 (u2 + 1) M else kb_rd (M 7) 10 u1 (fun v2 => kb_cl (f_Y_takes u2 v2 M) (fun r3 M4 => (if r3 = (0 : Int32) then h_Y_tidyPlaceFor_2 n u1 (u2 + 1) M4 else kb_cl (f_Y_wouldBlockOn u1 u2 M4) (fun r5 M6 => (if r5 = (0 : Int32) then some (u2, M6) else h_Y_tidyPlaceFor_2 n u1 (u2 + 1) M6))))))))
def f_Y_tidyPlaceFor (x1 : Int32) (M0 : Nat → Nat → Int32) : Option (Int32 × (Nat → Nat → Int32)) := h_Y_tidyPlaceFor_2 kb_F x1 (0 : Int32) M0
set_option maxHeartbeats 4000000 in
set_option maxRecDepth 100000 in
theorem c_Y_tidyPlaceFor (l : Launch) (D : va_G) (A : Nat → Nat) (G : Nat → ClassId) (x1 : Int32) (M0 : Nat → Nat → Int32) (r : Int32) (M' : Nat → Nat → Int32) (sz : Nat) (h : f_Y_tidyPlaceFor x1 M0 = some (r, M')) : kb_Ci l y_Y_tidyPlaceFor (Cond.code y_Y_tidyPlaceFor b_Y_tidyPlaceFor 3 (some .int) :: wsC) { frames := 3, cells := 0, slots := 0, locals := 69 } [.ref (A 1), .int x1] D kcl (tyC G) (wC A G M0) (wC A G M') nnC sz r := by
  refine Met.ofW (cc := b_Y_tidyPlaceFor) (maxL := 3) (ret := (some .int)) (by decide) rfl ?_
  intro p e s m args below meth c s₁ B hml hv
  obtain ⟨rfl, hpre⟩ := hv
  obtain ⟨hw, hN⟩ := kb_enter hpre
  have hx := B.exec
  have hb := B.bytes
  have hr := B.returns
  have hts := atoms_spec (ws := (Cond.code y_Y_tidyPlaceFor b_Y_tidyPlaceFor 3 (some .int) :: wsC)) B.pre
  have htw : ∀ w ∈ wsC, w.before ([.ref (A 1), .int x1] : List Value).toArray s = true := fun w h => hts w (List.mem_cons_of_mem _ h)
  have hown : s.vm.findClass "PileLifts$Yard" = some m.cls := findClass_of_methodNamed B.named
  have hlocks := B.notSynchronized
  have loop_2 : ∀ (n2 : Nat) (u1 u2 : Int32) (M : Nat → Nat → Int32) (H : Heap) (locs : List Loc) (ls : Array Slot), h_Y_tidyPlaceFor_2 n2 u1 u2 M = some (r, M') → kb_K D kcl (tyC G) (wC A G M) s (va_A (wC A G M0) sz) H locs → lv_has ls 3 [(0, .ref (A 1)), (1, .int u1), (2, .int u2)] → W p l e (headSpec (Cond.code y_Y_tidyPlaceFor b_Y_tidyPlaceFor 3 (some .int) :: wsC) { frames := 3, cells := 0, slots := 0, locals := 69 }).room s m ([.ref (A 1), .int x1] : List Value).toArray below meth c H locs 0 0 (kb_Qi D kcl (tyC G) (wC A G M0) (wC A G M') sz r below ([.ref (A 1), .int x1] : List Value).toArray s) (F0 m 2 ls []) := by
    intro n2
    induction n2 with
    | zero =>
      intro u1 u2 M H locs ls h
      cases h
    | succ n2 ih =>
      intro u1 u2 M H locs ls h hw hl
      rw [h_Y_tidyPlaceFor_2] at h
      refine lv_iload_n hx hb d_Y_tidyPlaceFor_2 rfl (lv_at hl 2 rfl) ?_
      refine lv_aload_n hx hb d_Y_tidyPlaceFor_3 rfl (lv_at hl 0 rfl) ?_
      refine kb_get (own := "PileLifts$Yard") (ref := "PileLifts$Yard") (C := R_Y) (T := F_Y) (N := 10) hx hb htw i_Y hown hw 1 (wC_1 A G _) rfl 0 (by decide) (htw _ mC_16) rfl rfl d_Y_tidyPlaceFor_4 ?_
      refine lv_icmp_ge (tgt := 51) hx hb d_Y_tidyPlaceFor_7 (by decide) (fun c => ?_) (fun c => ?_)
      · have h := kb_ip c h
        refine lv_iconst (v := -1) hx hb d_Y_tidyPlaceFor_51 (by decide) ?_
        obtain ⟨rfl, rfl⟩ := kb_rt h
        exact kb_iret hx hb hr hw hlocks d_Y_tidyPlaceFor_52
      · have h := kb_in c h
        refine lv_iload_n hx hb d_Y_tidyPlaceFor_10 rfl (lv_at hl 2 rfl) ?_
        refine lv_aload_n hx hb d_Y_tidyPlaceFor_11 rfl (lv_at hl 0 rfl) ?_
        refine kb_get (own := "PileLifts$Yard") (ref := "PileLifts$Yard") (C := R_Y) (T := F_Y) (N := 10) hx hb htw i_Y hown hw 1 (wC_1 A G _) rfl 8 (by decide) (htw _ mC_24) rfl rfl d_Y_tidyPlaceFor_12 ?_
        refine lv_iload_n hx hb d_Y_tidyPlaceFor_15 rfl (lv_at hl 1 rfl) ?_
        obtain ⟨v1, ev1, hi, h⟩ := kb_rd_some h
        refine kb_ald hx hb hw 9 5 rfl rfl hi ev1 d_Y_tidyPlaceFor_16 ?_
        refine lv_icmp_eq (tgt := 45) hx hb d_Y_tidyPlaceFor_17 (by decide) (fun c => ?_) (fun c => ?_)
        · have h := kb_ip c h
          refine lv_iinc (v := (u2 + 1)) (lv' := [(2, .int (u2 + 1)), (0, .ref (A 1)), (1, .int u1)]) hx hb d_Y_tidyPlaceFor_45 hl (k := 2) rfl rfl (by decide) rfl (fun ls hl => ?_)
          refine lv_goto (tgt := 2) hx hb d_Y_tidyPlaceFor_48 (by decide) ?_
          exact ih u1 (u2 + 1) M _ _ _ h hw (lv_sub hl [1, 2, 0] rfl)
        · have h := kb_in c h
          refine lv_aload_n hx hb d_Y_tidyPlaceFor_20 rfl (lv_at hl 0 rfl) ?_
          refine lv_iload_n hx hb d_Y_tidyPlaceFor_21 rfl (lv_at hl 2 rfl) ?_
          refine lv_aload_n hx hb d_Y_tidyPlaceFor_22 rfl (lv_at hl 0 rfl) ?_
          refine kb_get (own := "PileLifts$Yard") (ref := "PileLifts$Yard") (C := R_Y) (T := F_Y) (N := 10) hx hb htw i_Y hown hw 1 (wC_1 A G _) rfl 6 (by decide) (htw _ mC_22) rfl rfl d_Y_tidyPlaceFor_23 ?_
          refine lv_iload_n hx hb d_Y_tidyPlaceFor_26 rfl (lv_at hl 1 rfl) ?_
          obtain ⟨v2, ev2, hi, h⟩ := kb_rd_some h
          refine kb_ald hx hb hw 7 3 rfl rfl hi ev2 d_Y_tidyPlaceFor_27 ?_
          obtain ⟨r3, M4, hc, h⟩ := kb_cl_some h
          refine kb_calli0 (va_runV (As := [.int u2, .int v2]) (rest := []) ⟨hx, hb, hml, hown, htw⟩ (c_Y_takes l D A G u2 v2 M _ _ H.size hc) ⟨(callB_of 2 htw (wsC_self mC_121) rfl rfl rfl (htw _ mC_1) (htw _ mC_214) q_Y_takes ⟨by show 2 + 1 ≤ 3; omega, by show 8 + (4 + 11) + 43 ≤ 69; omega⟩), htw _ mC_120, htw _ mC_239⟩ (kb_preV nnC_warm nnC_same hw hN 1 (wC_1 A G _) rfl) rfl rfl hl.1 rfl (lv_room (Nat.le_of_ble_eq_true rfl)) d_Y_tidyPlaceFor_28 ⟨Nat.zero_le _, Nat.zero_le _⟩) hw (fun H locs hw => ?_)
          refine lv_if_eq (tgt := 45) hx hb d_Y_tidyPlaceFor_31 (by decide) (fun c => ?_) (fun c => ?_)
          · have h := kb_ip c h
            refine lv_iinc (v := (u2 + 1)) (lv' := [(2, .int (u2 + 1)), (0, .ref (A 1)), (1, .int u1)]) hx hb d_Y_tidyPlaceFor_45 hl (k := 2) rfl rfl (by decide) rfl (fun ls hl => ?_)
            refine lv_goto (tgt := 2) hx hb d_Y_tidyPlaceFor_48 (by decide) ?_
            exact ih u1 (u2 + 1) M4 _ _ _ h hw (lv_sub hl [1, 2, 0] rfl)
          · have h := kb_in c h
            refine lv_aload_n hx hb d_Y_tidyPlaceFor_34 rfl (lv_at hl 0 rfl) ?_
            refine lv_iload_n hx hb d_Y_tidyPlaceFor_35 rfl (lv_at hl 1 rfl) ?_
            refine lv_iload_n hx hb d_Y_tidyPlaceFor_36 rfl (lv_at hl 2 rfl) ?_
            obtain ⟨r5, M6, hc, h⟩ := kb_cl_some h
            refine kb_calli0 (va_runV (As := [.int u1, .int u2]) (rest := []) ⟨hx, hb, hml, hown, htw⟩ (c_Y_wouldBlockOn l D A G u1 u2 M4 _ _ H.size hc) ⟨(callB_of 2 htw (wsC_self mC_171) rfl rfl rfl (htw _ mC_1) (htw _ mC_215) q_Y_wouldBlockOn ⟨by show 2 + 1 ≤ 3; omega, by show 8 + (3 + 11) + 47 ≤ 69; omega⟩), htw _ mC_170, htw _ mC_253⟩ (kb_preV nnC_warm nnC_same hw hN 1 (wC_1 A G _) rfl) rfl rfl hl.1 rfl (lv_room (Nat.le_of_ble_eq_true rfl)) d_Y_tidyPlaceFor_37 ⟨Nat.zero_le _, Nat.zero_le _⟩) hw (fun H locs hw => ?_)
            refine lv_if_ne (tgt := 45) hx hb d_Y_tidyPlaceFor_40 (by decide) (fun c => ?_) (fun c => ?_)
            · have h := kb_in c h
              refine lv_iinc (v := (u2 + 1)) (lv' := [(2, .int (u2 + 1)), (0, .ref (A 1)), (1, .int u1)]) hx hb d_Y_tidyPlaceFor_45 hl (k := 2) rfl rfl (by decide) rfl (fun ls hl => ?_)
              refine lv_goto (tgt := 2) hx hb d_Y_tidyPlaceFor_48 (by decide) ?_
              exact ih u1 (u2 + 1) M6 _ _ _ h hw (lv_sub hl [1, 2, 0] rfl)
            · have h := kb_ip c h
              refine lv_iload_n hx hb d_Y_tidyPlaceFor_43 rfl (lv_at hl 2 rfl) ?_
              obtain ⟨rfl, rfl⟩ := kb_rt h
              exact kb_iret hx hb hr hw hlocks d_Y_tidyPlaceFor_44
  have hl := lv_entry ([.ref (A 1), .int x1]) (n := 3) (Nat.le_of_ble_eq_true rfl)
  rw [lg_entry_eq]
  generalize (lg_sl ([.ref (A 1), .int x1]) ++ List.replicate (3 - (lg_sl ([.ref (A 1), .int x1])).length) Slot.unset).toArray = ls at hl ⊢
  have hl : lv_has ls 3 [(0, .ref (A 1)), (1, .int x1)] := hl
  rw [f_Y_tidyPlaceFor] at h
  refine lv_iconst (v := 0) hx hb d_Y_tidyPlaceFor_0 (by decide) ?_
  refine lv_istore_n (lv' := [(2, .int (0 : Int32)), (0, .ref (A 1)), (1, .int x1)]) hx hb d_Y_tidyPlaceFor_1 rfl hl (by decide) rfl (fun ls hl => ?_)
  exact loop_2 kb_F x1 (0 : Int32) M0 _ _ _ h hw (lv_sub hl [1, 2, 0] rfl)
def h_Y_tidyOnce_2 : Nat → Int32 → (Nat → Nat → Int32) → Option (Int32 × (Nat → Nat → Int32))
  | 0, _, _ => none
  | n + 1, u1, M => (if (M 1 0) ≤ u1 then some ((0 : Int32), M) else kb_cl (f_Y_topOf u1 M) (fun r1 M2 => (if r1 = (-1 : Int32) then h_Y_tidyOnce_2 n (u1 + 1) M2 else kb_cl (f_Y_isBlocking r1 M2) (fun r3 M4 => (if r3 = (0 : Int32) then h_Y_tidyOnce_2 n (u1 + 1) M4 else kb_cl (f_Y_tidyPlaceFor r1 M4) (fun r5 M6 => (if r5 = (-1 : Int32) then h_Y_tidyOnce_2 n (u1 + 1) M6 else kb_cl (f_Y_relift r1 r5 M6) (fun r7 M8 => some ((1 : Int32), M8)))))))))
def f_Y_tidyOnce (M0 : Nat → Nat → Int32) : Option (Int32 × (Nat → Nat → Int32)) := h_Y_tidyOnce_2 kb_F (0 : Int32) M0
set_option maxHeartbeats 4000000 in
set_option maxRecDepth 100000 in
theorem c_Y_tidyOnce (l : Launch) (D : va_G) (A : Nat → Nat) (G : Nat → ClassId) (M0 : Nat → Nat → Int32) (r : Int32) (M' : Nat → Nat → Int32) (sz : Nat) (h : f_Y_tidyOnce M0 = some (r, M')) : kb_Ci l y_Y_tidyOnce (Cond.code y_Y_tidyOnce b_Y_tidyOnce 4 (some .boolean) :: wsC) { frames := 4, cells := 0, slots := 0, locals := 91 } [.ref (A 1)] D kcl (tyC G) (wC A G M0) (wC A G M') nnC sz r := by
  refine Met.ofW (cc := b_Y_tidyOnce) (maxL := 4) (ret := (some .boolean)) (by decide) rfl ?_
  intro p e s m args below meth c s₁ B hml hv
  obtain ⟨rfl, hpre⟩ := hv
  obtain ⟨hw, hN⟩ := kb_enter hpre
  have hx := B.exec
  have hb := B.bytes
  have hr := B.returns
  have hts := atoms_spec (ws := (Cond.code y_Y_tidyOnce b_Y_tidyOnce 4 (some .boolean) :: wsC)) B.pre
  have htw : ∀ w ∈ wsC, w.before ([.ref (A 1)] : List Value).toArray s = true := fun w h => hts w (List.mem_cons_of_mem _ h)
  have hown : s.vm.findClass "PileLifts$Yard" = some m.cls := findClass_of_methodNamed B.named
  have hlocks := B.notSynchronized
  have loop_2 : ∀ (n2 : Nat) (u1 : Int32) (M : Nat → Nat → Int32) (H : Heap) (locs : List Loc) (ls : Array Slot), h_Y_tidyOnce_2 n2 u1 M = some (r, M') → kb_K D kcl (tyC G) (wC A G M) s (va_A (wC A G M0) sz) H locs → lv_has ls 4 [(0, .ref (A 1)), (1, .int u1)] → W p l e (headSpec (Cond.code y_Y_tidyOnce b_Y_tidyOnce 4 (some .boolean) :: wsC) { frames := 4, cells := 0, slots := 0, locals := 91 }).room s m ([.ref (A 1)] : List Value).toArray below meth c H locs 0 0 (kb_Qi D kcl (tyC G) (wC A G M0) (wC A G M') sz r below ([.ref (A 1)] : List Value).toArray s) (F0 m 2 ls []) := by
    intro n2
    induction n2 with
    | zero =>
      intro u1 M H locs ls h
      cases h
    | succ n2 ih =>
      intro u1 M H locs ls h hw hl
      rw [h_Y_tidyOnce_2] at h
      refine lv_iload_n hx hb d_Y_tidyOnce_2 rfl (lv_at hl 1 rfl) ?_
      refine lv_aload_n hx hb d_Y_tidyOnce_3 rfl (lv_at hl 0 rfl) ?_
      refine kb_get (own := "PileLifts$Yard") (ref := "PileLifts$Yard") (C := R_Y) (T := F_Y) (N := 10) hx hb htw i_Y hown hw 1 (wC_1 A G _) rfl 0 (by decide) (htw _ mC_16) rfl rfl d_Y_tidyOnce_4 ?_
      refine lv_icmp_ge (tgt := 54) hx hb d_Y_tidyOnce_7 (by decide) (fun c => ?_) (fun c => ?_)
      · have h := kb_ip c h
        refine lv_iconst (v := 0) hx hb d_Y_tidyOnce_54 (by decide) ?_
        obtain ⟨rfl, rfl⟩ := kb_rt h
        exact kb_zret hx hb hr hw hlocks (Or.inl rfl) d_Y_tidyOnce_55
      · have h := kb_in c h
        refine lv_aload_n hx hb d_Y_tidyOnce_10 rfl (lv_at hl 0 rfl) ?_
        refine lv_iload_n hx hb d_Y_tidyOnce_11 rfl (lv_at hl 1 rfl) ?_
        obtain ⟨r1, M2, hc, h⟩ := kb_cl_some h
        refine kb_calli0 (va_runV (As := [.int u1]) (rest := []) ⟨hx, hb, hml, hown, htw⟩ (c_Y_topOf l D A G u1 M _ _ H.size hc) ⟨(callB_of 1 htw (wsC_self mC_124) rfl rfl rfl (htw _ mC_1) (htw _ mC_122) q_Y_topOf ⟨by show 1 + 1 ≤ 4; omega, by show 8 + (2 + 11) + 22 ≤ 91; omega⟩), htw _ mC_123, htw _ mC_240⟩ (kb_preV nnC_warm nnC_same hw hN 1 (wC_1 A G _) rfl) rfl rfl hl.1 rfl (lv_room (Nat.le_of_ble_eq_true rfl)) d_Y_tidyOnce_12 ⟨Nat.zero_le _, Nat.zero_le _⟩) hw (fun H locs hw => ?_)
        refine lv_istore_n (lv' := [(2, .int r1), (0, .ref (A 1)), (1, .int u1)]) hx hb d_Y_tidyOnce_15 rfl hl (by decide) rfl (fun ls hl => ?_)
        refine lv_iload_n hx hb d_Y_tidyOnce_16 rfl (lv_at hl 0 rfl) ?_
        refine lv_iconst (v := -1) hx hb d_Y_tidyOnce_17 (by decide) ?_
        refine lv_icmp_eq (tgt := 48) hx hb d_Y_tidyOnce_18 (by decide) (fun c => ?_) (fun c => ?_)
        · have h := kb_ip c h
          refine lv_iinc (v := (u1 + 1)) (lv' := [(1, .int (u1 + 1)), (2, .int r1), (0, .ref (A 1))]) hx hb d_Y_tidyOnce_48 hl (k := 2) rfl rfl (by decide) rfl (fun ls hl => ?_)
          refine lv_goto (tgt := 2) hx hb d_Y_tidyOnce_51 (by decide) ?_
          exact ih (u1 + 1) M2 _ _ _ h hw (lv_sub hl [2, 0] rfl)
        · have h := kb_in c h
          refine lv_aload_n hx hb d_Y_tidyOnce_21 rfl (lv_at hl 1 rfl) ?_
          refine lv_iload_n hx hb d_Y_tidyOnce_22 rfl (lv_at hl 0 rfl) ?_
          obtain ⟨r3, M4, hc, h⟩ := kb_cl_some h
          refine kb_calli0 (va_runV (As := [.int r1]) (rest := []) ⟨hx, hb, hml, hown, htw⟩ (c_Y_isBlocking l D A G r1 M2 _ _ H.size hc) ⟨(callB_of 1 htw (wsC_self mC_90) rfl rfl rfl (htw _ mC_1) (htw _ mC_88) q_Y_isBlocking ⟨by show 2 + 1 ≤ 4; omega, by show 8 + (2 + 11) + 47 ≤ 91; omega⟩), htw _ mC_89, htw _ mC_232⟩ (kb_preV nnC_warm nnC_same hw hN 1 (wC_1 A G _) rfl) rfl rfl hl.1 rfl (lv_room (Nat.le_of_ble_eq_true rfl)) d_Y_tidyOnce_23 ⟨Nat.zero_le _, Nat.zero_le _⟩) hw (fun H locs hw => ?_)
          refine lv_if_eq (tgt := 48) hx hb d_Y_tidyOnce_26 (by decide) (fun c => ?_) (fun c => ?_)
          · have h := kb_ip c h
            refine lv_iinc (v := (u1 + 1)) (lv' := [(1, .int (u1 + 1)), (2, .int r1), (0, .ref (A 1))]) hx hb d_Y_tidyOnce_48 hl (k := 2) rfl rfl (by decide) rfl (fun ls hl => ?_)
            refine lv_goto (tgt := 2) hx hb d_Y_tidyOnce_51 (by decide) ?_
            exact ih (u1 + 1) M4 _ _ _ h hw (lv_sub hl [2, 0] rfl)
          · have h := kb_in c h
            refine lv_aload_n hx hb d_Y_tidyOnce_29 rfl (lv_at hl 1 rfl) ?_
            refine lv_iload_n hx hb d_Y_tidyOnce_30 rfl (lv_at hl 0 rfl) ?_
            obtain ⟨r5, M6, hc, h⟩ := kb_cl_some h
            refine kb_calli0 (va_runV (As := [.int r1]) (rest := []) ⟨hx, hb, hml, hown, htw⟩ (c_Y_tidyPlaceFor l D A G r1 M4 _ _ H.size hc) ⟨(callB_of 1 htw (wsC_self mC_213) rfl rfl rfl (htw _ mC_1) (htw _ mC_211) q_Y_tidyPlaceFor ⟨by show 3 + 1 ≤ 4; omega, by show 8 + (3 + 11) + 69 ≤ 91; omega⟩), htw _ mC_212, htw _ mC_262⟩ (kb_preV nnC_warm nnC_same hw hN 1 (wC_1 A G _) rfl) rfl rfl hl.1 rfl (lv_room (Nat.le_of_ble_eq_true rfl)) d_Y_tidyOnce_31 ⟨Nat.zero_le _, Nat.zero_le _⟩) hw (fun H locs hw => ?_)
            refine lv_istore_n (lv' := [(3, .int r5), (2, .int r1), (0, .ref (A 1)), (1, .int u1)]) hx hb d_Y_tidyOnce_34 rfl hl (by decide) rfl (fun ls hl => ?_)
            refine lv_iload_n hx hb d_Y_tidyOnce_35 rfl (lv_at hl 0 rfl) ?_
            refine lv_iconst (v := -1) hx hb d_Y_tidyOnce_36 (by decide) ?_
            refine lv_icmp_eq (tgt := 48) hx hb d_Y_tidyOnce_37 (by decide) (fun c => ?_) (fun c => ?_)
            · have h := kb_ip c h
              refine lv_iinc (v := (u1 + 1)) (lv' := [(1, .int (u1 + 1)), (3, .int r5), (2, .int r1), (0, .ref (A 1))]) hx hb d_Y_tidyOnce_48 hl (k := 3) rfl rfl (by decide) rfl (fun ls hl => ?_)
              refine lv_goto (tgt := 2) hx hb d_Y_tidyOnce_51 (by decide) ?_
              exact ih (u1 + 1) M6 _ _ _ h hw (lv_sub hl [3, 0] rfl)
            · have h := kb_in c h
              refine lv_aload_n hx hb d_Y_tidyOnce_40 rfl (lv_at hl 2 rfl) ?_
              refine lv_iload_n hx hb d_Y_tidyOnce_41 rfl (lv_at hl 1 rfl) ?_
              refine lv_iload_n hx hb d_Y_tidyOnce_42 rfl (lv_at hl 0 rfl) ?_
              obtain ⟨r7, M8, hc, h⟩ := kb_cl_some h
              refine kb_callv0 (va_runV (As := [.int r1, .int r5]) (rest := []) ⟨hx, hb, hml, hown, htw⟩ (c_Y_relift l D A G r1 r5 M6 _ _ H.size hc) ⟨(callB_of 2 htw (wsC_self mC_176) rfl rfl rfl (htw _ mC_1) (htw _ mC_216) q_Y_relift ⟨by show 1 + 1 ≤ 4; omega, by show 8 + (3 + 11) + 23 ≤ 91; omega⟩), htw _ mC_175, htw _ mC_255⟩ (kb_preV nnC_warm nnC_same hw hN 1 (wC_1 A G _) rfl) rfl rfl hl.1 rfl (lv_room (Nat.le_of_ble_eq_true rfl)) d_Y_tidyOnce_43 ⟨Nat.zero_le _, Nat.zero_le _⟩) hw (fun H locs hw => ?_)
              refine lv_iconst (v := 1) hx hb d_Y_tidyOnce_46 (by decide) ?_
              obtain ⟨rfl, rfl⟩ := kb_rt h
              exact kb_zret hx hb hr hw hlocks (Or.inr rfl) d_Y_tidyOnce_47
  have hl := lv_entry ([.ref (A 1)]) (n := 4) (Nat.le_of_ble_eq_true rfl)
  rw [lg_entry_eq]
  generalize (lg_sl ([.ref (A 1)]) ++ List.replicate (4 - (lg_sl ([.ref (A 1)])).length) Slot.unset).toArray = ls at hl ⊢
  have hl : lv_has ls 4 [(0, .ref (A 1))] := hl
  rw [f_Y_tidyOnce] at h
  refine lv_iconst (v := 0) hx hb d_Y_tidyOnce_0 (by decide) ?_
  refine lv_istore_n (lv' := [(1, .int (0 : Int32)), (0, .ref (A 1))]) hx hb d_Y_tidyOnce_1 rfl hl (by decide) rfl (fun ls hl => ?_)
  exact loop_2 kb_F (0 : Int32) M0 _ _ _ h hw (lv_sub hl [1, 0] rfl)
def h_P_tidy_22 : Nat → Int32 → Int32 → (Nat → Nat → Int32) → Option (Int32 × (Nat → Nat → Int32))
  | 0, _, _, _ => none
  | n + 1, u1, u2, M => (if u1 ≤ u2 then (if u2 ≤ (0 : Int32) then some (u2, M) else kb_cl (f_S_forget M) (fun r3 M4 => some (u2, M4))) else kb_cl (f_Y_tidyOnce M) (fun r5 M6 => (if r5 = (0 : Int32) then (if u2 ≤ (0 : Int32) then some (u2, M6) else kb_cl (f_S_forget M6) (fun r7 M8 => some (u2, M8))) else h_P_tidy_22 n u1 (u2 + 1) M6)))
def f_P_tidy (x1 : Int32) (M0 : Nat → Nat → Int32) : Option (Int32 × (Nat → Nat → Int32)) := kb_cl (f_P_isWithin x1 (0 : Int32) (20 : Int32) M0) (fun r1 M2 => (if r1 = (0 : Int32) then none else h_P_tidy_22 kb_F x1 (0 : Int32) M2))
set_option maxHeartbeats 4000000 in
set_option maxRecDepth 100000 in
theorem c_P_tidy (l : Launch) (D : va_G) (A : Nat → Nat) (G : Nat → ClassId) (x1 : Int32) (M0 : Nat → Nat → Int32) (r : Int32) (M' : Nat → Nat → Int32) (sz : Nat) (h : f_P_tidy x1 M0 = some (r, M')) : kb_Ci l y_P_tidy (Cond.code y_P_tidy b_P_tidy 3 (some .int) :: wsC) { frames := 5, cells := 0, slots := 0, locals := 114 } [.ref (A 0), .int x1] D kcl (tyC G) (wC A G M0) (wC A G M') nnC sz r := by
  refine Met.ofW (cc := b_P_tidy) (maxL := 3) (ret := (some .int)) (by decide) rfl ?_
  intro p e s m args below meth c s₁ B hml hv
  obtain ⟨rfl, hpre⟩ := hv
  obtain ⟨hw, hN⟩ := kb_enter hpre
  have hx := B.exec
  have hb := B.bytes
  have hr := B.returns
  have hts := atoms_spec (ws := (Cond.code y_P_tidy b_P_tidy 3 (some .int) :: wsC)) B.pre
  have htw : ∀ w ∈ wsC, w.before ([.ref (A 0), .int x1] : List Value).toArray s = true := fun w h => hts w (List.mem_cons_of_mem _ h)
  have hown : s.vm.findClass "PileLifts" = some m.cls := findClass_of_methodNamed B.named
  have hlocks := B.notSynchronized
  have loop_22 : ∀ (n22 : Nat) (u1 u2 : Int32) (M : Nat → Nat → Int32) (H : Heap) (locs : List Loc) (ls : Array Slot), h_P_tidy_22 n22 u1 u2 M = some (r, M') → kb_K D kcl (tyC G) (wC A G M) s (va_A (wC A G M0) sz) H locs → lv_has ls 3 [(0, .ref (A 0)), (1, .int u1), (2, .int u2)] → W p l e (headSpec (Cond.code y_P_tidy b_P_tidy 3 (some .int) :: wsC) { frames := 5, cells := 0, slots := 0, locals := 114 }).room s m ([.ref (A 0), .int x1] : List Value).toArray below meth c H locs 0 0 (kb_Qi D kcl (tyC G) (wC A G M0) (wC A G M') sz r below ([.ref (A 0), .int x1] : List Value).toArray s) (F0 m 22 ls []) := by
    intro n22
    induction n22 with
    | zero =>
      intro u1 u2 M H locs ls h
      cases h
    | succ n22 ih =>
      intro u1 u2 M H locs ls h hw hl
      rw [h_P_tidy_22] at h
      refine lv_iload_n hx hb d_P_tidy_22 rfl (lv_at hl 2 rfl) ?_
      refine lv_iload_n hx hb d_P_tidy_23 rfl (lv_at hl 1 rfl) ?_
      refine lv_icmp_ge (tgt := 43) hx hb d_P_tidy_24 (by decide) (fun c => ?_) (fun c => ?_)
      · have h := kb_ip c h
        refine lv_iload_n hx hb d_P_tidy_43 rfl (lv_at hl 2 rfl) ?_
        refine lv_if_le (tgt := 54) hx hb d_P_tidy_44 (by decide) (fun c => ?_) (fun c => ?_)
        · have h := kb_ip c h
          refine lv_iload_n hx hb d_P_tidy_54 rfl (lv_at hl 2 rfl) ?_
          obtain ⟨rfl, rfl⟩ := kb_rt h
          exact kb_iret hx hb hr hw hlocks d_P_tidy_55
        · have h := kb_in c h
          refine lv_aload_n hx hb d_P_tidy_47 rfl (lv_at hl 0 rfl) ?_
          refine kb_get (own := "PileLifts") (ref := "PileLifts") (C := R_P) (T := F_P) (N := 3) hx hb htw i_P hown hw 0 (wC_0 A G _) rfl 1 (by decide) (htw _ mC_78) rfl rfl d_P_tidy_48 ?_
          obtain ⟨r3, M4, hc, h⟩ := kb_cl_some h
          refine kb_callv0 (va_runVN (As := []) (rest := []) ⟨hx, hb, hml, hown, htw⟩ (c_S_forget l D A G M _ _ H.size hc) ⟨(va_cnB 0 htw (wsC_self mC_112) rfl rfl rfl (nm_P_47 hN) (htw _ mC_2) q_S_forget ⟨by show 0 + 1 ≤ 5; omega, by show 8 + (1 + 11) + 0 ≤ 114; omega⟩), htw _ mC_111, htw _ mC_237⟩ (kb_preV nnC_warm nnC_same hw hN 2 (wC_2 A G _) rfl) rfl rfl hl.1 rfl (lv_room (Nat.le_of_ble_eq_true rfl)) d_P_tidy_51 ⟨Nat.zero_le _, Nat.zero_le _⟩) hw (fun H locs hw => ?_)
          refine lv_iload_n hx hb d_P_tidy_54 rfl (lv_at hl 2 rfl) ?_
          obtain ⟨rfl, rfl⟩ := kb_rt h
          exact kb_iret hx hb hr hw hlocks d_P_tidy_55
      · have h := kb_in c h
        refine lv_aload_n hx hb d_P_tidy_27 rfl (lv_at hl 0 rfl) ?_
        refine kb_get (own := "PileLifts") (ref := "PileLifts") (C := R_P) (T := F_P) (N := 3) hx hb htw i_P hown hw 0 (wC_0 A G _) rfl 0 (by decide) (htw _ mC_77) rfl rfl d_P_tidy_28 ?_
        obtain ⟨r5, M6, hc, h⟩ := kb_cl_some h
        refine kb_calli0 (va_runVN (As := []) (rest := []) ⟨hx, hb, hml, hown, htw⟩ (c_Y_tidyOnce l D A G M _ _ H.size hc) ⟨(va_cnB 0 htw (wsC_self mC_210) rfl rfl rfl (nm_P_160 hN) (htw _ mC_1) q_Y_tidyOnce ⟨by show 4 + 1 ≤ 5; omega, by show 8 + (4 + 11) + 91 ≤ 114; omega⟩), htw _ mC_209, htw _ mC_261⟩ (kb_preV nnC_warm nnC_same hw hN 1 (wC_1 A G _) rfl) rfl rfl hl.1 rfl (lv_room (Nat.le_of_ble_eq_true rfl)) d_P_tidy_31 ⟨Nat.zero_le _, Nat.zero_le _⟩) hw (fun H locs hw => ?_)
        refine lv_if_eq (tgt := 43) hx hb d_P_tidy_34 (by decide) (fun c => ?_) (fun c => ?_)
        · have h := kb_ip c h
          refine lv_iload_n hx hb d_P_tidy_43 rfl (lv_at hl 2 rfl) ?_
          refine lv_if_le (tgt := 54) hx hb d_P_tidy_44 (by decide) (fun c => ?_) (fun c => ?_)
          · have h := kb_ip c h
            refine lv_iload_n hx hb d_P_tidy_54 rfl (lv_at hl 2 rfl) ?_
            obtain ⟨rfl, rfl⟩ := kb_rt h
            exact kb_iret hx hb hr hw hlocks d_P_tidy_55
          · have h := kb_in c h
            refine lv_aload_n hx hb d_P_tidy_47 rfl (lv_at hl 0 rfl) ?_
            refine kb_get (own := "PileLifts") (ref := "PileLifts") (C := R_P) (T := F_P) (N := 3) hx hb htw i_P hown hw 0 (wC_0 A G _) rfl 1 (by decide) (htw _ mC_78) rfl rfl d_P_tidy_48 ?_
            obtain ⟨r7, M8, hc, h⟩ := kb_cl_some h
            refine kb_callv0 (va_runVN (As := []) (rest := []) ⟨hx, hb, hml, hown, htw⟩ (c_S_forget l D A G M6 _ _ H.size hc) ⟨(va_cnB 0 htw (wsC_self mC_112) rfl rfl rfl (nm_P_47 hN) (htw _ mC_2) q_S_forget ⟨by show 0 + 1 ≤ 5; omega, by show 8 + (1 + 11) + 0 ≤ 114; omega⟩), htw _ mC_111, htw _ mC_237⟩ (kb_preV nnC_warm nnC_same hw hN 2 (wC_2 A G _) rfl) rfl rfl hl.1 rfl (lv_room (Nat.le_of_ble_eq_true rfl)) d_P_tidy_51 ⟨Nat.zero_le _, Nat.zero_le _⟩) hw (fun H locs hw => ?_)
            refine lv_iload_n hx hb d_P_tidy_54 rfl (lv_at hl 2 rfl) ?_
            obtain ⟨rfl, rfl⟩ := kb_rt h
            exact kb_iret hx hb hr hw hlocks d_P_tidy_55
        · have h := kb_in c h
          refine lv_iinc (v := (u2 + 1)) (lv' := [(2, .int (u2 + 1)), (0, .ref (A 0)), (1, .int u1)]) hx hb d_P_tidy_37 hl (k := 2) rfl rfl (by decide) rfl (fun ls hl => ?_)
          refine lv_goto (tgt := 22) hx hb d_P_tidy_40 (by decide) ?_
          exact ih u1 (u2 + 1) M6 _ _ _ h hw (lv_sub hl [1, 2, 0] rfl)
  have hl := lv_entry ([.ref (A 0), .int x1]) (n := 3) (Nat.le_of_ble_eq_true rfl)
  rw [lg_entry_eq]
  generalize (lg_sl ([.ref (A 0), .int x1]) ++ List.replicate (3 - (lg_sl ([.ref (A 0), .int x1])).length) Slot.unset).toArray = ls at hl ⊢
  have hl : lv_has ls 3 [(0, .ref (A 0)), (1, .int x1)] := hl
  rw [f_P_tidy] at h
  refine lv_iload_n hx hb d_P_tidy_0 rfl (lv_at hl 1 rfl) ?_
  refine lv_iconst (v := 0) hx hb d_P_tidy_1 (by decide) ?_
  refine lv_bipush (v := 20) hx hb d_P_tidy_2 (by decide) ?_
  obtain ⟨r1, M2, hc, h⟩ := kb_cl_some h
  refine kb_calli0 (va_runS (As := [.int x1, .int (0 : Int32), .int (20 : Int32)]) (rest := []) ⟨hx, hb, hml, hown, htw⟩ (c_P_isWithin l D A G x1 (0 : Int32) (20 : Int32) M0 _ _ s.heap.size hc) ⟨(callB_of 3 htw (wsC_self mC_108) rfl rfl rfl (htw _ mC_0) (htw _ mC_106) q_P_isWithin ⟨by show 0 + 1 ≤ 5; omega, by show 8 + (3 + 11) + 0 ≤ 114; omega⟩), htw _ mC_107⟩ (kb_preS nnC_warm nnC_same hw hN ) rfl rfl hl.1 rfl (lv_room (Nat.le_of_ble_eq_true rfl)) d_P_tidy_4 ⟨Nat.zero_le _, Nat.zero_le _⟩) hw (fun H locs hw => ?_)
  refine lv_if_ne (tgt := 20) hx hb d_P_tidy_7 (by decide) (fun c => ?_) (fun c => ?_)
  · have h := kb_in c h
    refine lv_iconst (v := 0) hx hb d_P_tidy_20 (by decide) ?_
    refine lv_istore_n (lv' := [(2, .int (0 : Int32)), (0, .ref (A 0)), (1, .int x1)]) hx hb d_P_tidy_21 rfl hl (by decide) rfl (fun ls hl => ?_)
    exact loop_22 kb_F x1 (0 : Int32) M2 _ _ _ h hw (lv_sub hl [1, 2, 0] rfl)
  · have h := kb_ip c h
    exact absurd h (by simp)
def f_W_add (x1 : Int32) (M0 : Nat → Nat → Int32) : Option (Int32 × (Nat → Nat → Int32)) := kb_st (kb_up M0 3 (upd (M0 3) 0 ((M0 3 0) + (1 : Int32)))) (fun M1 => kb_wr M1 14 4 (M0 3 0) x1 (fun M2 => kb_wr M2 15 4 (M0 3 0) (0 : Int32) (fun M3 => some ((M0 3 0), M3))))
set_option maxHeartbeats 4000000 in
set_option maxRecDepth 100000 in
theorem c_W_add (l : Launch) (D : va_G) (A : Nat → Nat) (G : Nat → ClassId) (x1 : Int32) (M0 : Nat → Nat → Int32) (r : Int32) (M' : Nat → Nat → Int32) (sz : Nat) (h : f_W_add x1 M0 = some (r, M')) : kb_Ci l y_W_add (Cond.code y_W_add b_W_add 3 (some .int) :: wsC) { frames := 0, cells := 0, slots := 0, locals := 0 } [.ref (A 3), .int x1] D kcl (tyC G) (wC A G M0) (wC A G M') nnC sz r := by
  refine Met.ofW (cc := b_W_add) (maxL := 3) (ret := (some .int)) (by decide) rfl ?_
  intro p e s m args below meth c s₁ B hml hv
  obtain ⟨rfl, hpre⟩ := hv
  obtain ⟨hw, hN⟩ := kb_enter hpre
  have hx := B.exec
  have hb := B.bytes
  have hr := B.returns
  have hts := atoms_spec (ws := (Cond.code y_W_add b_W_add 3 (some .int) :: wsC)) B.pre
  have htw : ∀ w ∈ wsC, w.before ([.ref (A 3), .int x1] : List Value).toArray s = true := fun w h => hts w (List.mem_cons_of_mem _ h)
  have hown : s.vm.findClass "PileLifts$Wagons" = some m.cls := findClass_of_methodNamed B.named
  have hlocks := B.notSynchronized
  have hl := lv_entry ([.ref (A 3), .int x1]) (n := 3) (Nat.le_of_ble_eq_true rfl)
  rw [lg_entry_eq]
  generalize (lg_sl ([.ref (A 3), .int x1]) ++ List.replicate (3 - (lg_sl ([.ref (A 3), .int x1])).length) Slot.unset).toArray = ls at hl ⊢
  have hl : lv_has ls 3 [(0, .ref (A 3)), (1, .int x1)] := hl
  rw [f_W_add] at h
  refine lv_aload_n hx hb d_W_add_0 rfl (lv_at hl 0 rfl) ?_
  refine kb_get (own := "PileLifts$Wagons") (ref := "PileLifts$Wagons") (C := R_W) (T := F_W) (N := 4) hx hb htw i_W hown hw 3 (wC_3 A G _) rfl 0 (by decide) (htw _ mC_69) rfl rfl d_W_add_1 ?_
  refine lv_istore_n (lv' := [(2, .int (M0 3 0)), (0, .ref (A 3)), (1, .int x1)]) hx hb d_W_add_4 rfl hl (by decide) rfl (fun ls hl => ?_)
  refine lv_aload_n hx hb d_W_add_5 rfl (lv_at hl 1 rfl) ?_
  refine lv_dup hx hb d_W_add_6 rfl ?_
  refine kb_get (own := "PileLifts$Wagons") (ref := "PileLifts$Wagons") (C := R_W) (T := F_W) (N := 4) hx hb htw i_W hown hw 3 (wC_3 A G _) rfl 0 (by decide) (htw _ mC_69) rfl rfl d_W_add_7 ?_
  refine lv_iconst (v := 1) hx hb d_W_add_10 (by decide) ?_
  refine lv_iadd hx hb d_W_add_11 ?_
  obtain ⟨M1, eM1, h⟩ := kb_st_some h
  refine kb_put (ws' := (wC A G M1)) (own := "PileLifts$Wagons") (ref := "PileLifts$Wagons") (C := R_W) (T := F_W) (N := 4) (ty := .int) hx hb htw i_W t_W t_W_ok n_W hown hw 3 (wC_3 A G _) rfl 0 (by decide) (htw _ mC_69) rfl rfl (by decide +kernel) rfl rfl (Nat.le_of_ble_eq_true rfl) d_W_add_12 (by rw [eM1]; rfl) (fun H locs hw => ?_)
  refine lv_aload_n hx hb d_W_add_15 rfl (lv_at hl 1 rfl) ?_
  refine kb_get (own := "PileLifts$Wagons") (ref := "PileLifts$Wagons") (C := R_W) (T := F_W) (N := 4) hx hb htw i_W hown hw 3 (wC_3 A G _) rfl 1 (by decide) (htw _ mC_70) rfl rfl d_W_add_16 ?_
  refine lv_iload_n hx hb d_W_add_19 rfl (lv_at hl 0 rfl) ?_
  refine lv_iload_n hx hb d_W_add_20 rfl (lv_at hl 2 rfl) ?_
  obtain ⟨M2, eM2, hi, h⟩ := kb_wr_some h
  refine kb_ast (ws' := (wC A G M2)) hx hb hw 14 10 rfl rfl hi d_W_add_21 (by rw [eM2]; rfl) (fun H locs hw => ?_)
  refine lv_aload_n hx hb d_W_add_22 rfl (lv_at hl 1 rfl) ?_
  refine kb_get (own := "PileLifts$Wagons") (ref := "PileLifts$Wagons") (C := R_W) (T := F_W) (N := 4) hx hb htw i_W hown hw 3 (wC_3 A G _) rfl 2 (by decide) (htw _ mC_71) rfl rfl d_W_add_23 ?_
  refine lv_iload_n hx hb d_W_add_26 rfl (lv_at hl 0 rfl) ?_
  refine lv_iconst (v := 0) hx hb d_W_add_27 (by decide) ?_
  obtain ⟨M3, eM3, hi, h⟩ := kb_wr_some h
  refine kb_ast (ws' := (wC A G M3)) hx hb hw 15 11 rfl rfl hi d_W_add_28 (by rw [eM3]; rfl) (fun H locs hw => ?_)
  refine lv_iload_n hx hb d_W_add_29 rfl (lv_at hl 0 rfl) ?_
  obtain ⟨rfl, rfl⟩ := kb_rt h
  exact kb_iret hx hb hr hw hlocks d_W_add_30
def f_P_wagon (x1 : Int32) (M0 : Nat → Nat → Int32) : Option (Int32 × (Nat → Nat → Int32)) := kb_cl (f_P_isWithin x1 (1 : Int32) (5000 : Int32) M0) (fun r1 M2 => (if r1 = (0 : Int32) then none else (if (M2 3 0) < (4 : Int32) then kb_cl (f_W_add x1 M2) (fun r3 M4 => some (r3, M4)) else none)))
set_option maxHeartbeats 4000000 in
set_option maxRecDepth 100000 in
theorem c_P_wagon (l : Launch) (D : va_G) (A : Nat → Nat) (G : Nat → ClassId) (x1 : Int32) (M0 : Nat → Nat → Int32) (r : Int32) (M' : Nat → Nat → Int32) (sz : Nat) (h : f_P_wagon x1 M0 = some (r, M')) : kb_Ci l y_P_wagon (Cond.code y_P_wagon b_P_wagon 2 (some .int) :: wsC) { frames := 1, cells := 0, slots := 0, locals := 22 } [.ref (A 0), .int x1] D kcl (tyC G) (wC A G M0) (wC A G M') nnC sz r := by
  refine Met.ofW (cc := b_P_wagon) (maxL := 2) (ret := (some .int)) (by decide) rfl ?_
  intro p e s m args below meth c s₁ B hml hv
  obtain ⟨rfl, hpre⟩ := hv
  obtain ⟨hw, hN⟩ := kb_enter hpre
  have hx := B.exec
  have hb := B.bytes
  have hr := B.returns
  have hts := atoms_spec (ws := (Cond.code y_P_wagon b_P_wagon 2 (some .int) :: wsC)) B.pre
  have htw : ∀ w ∈ wsC, w.before ([.ref (A 0), .int x1] : List Value).toArray s = true := fun w h => hts w (List.mem_cons_of_mem _ h)
  have hown : s.vm.findClass "PileLifts" = some m.cls := findClass_of_methodNamed B.named
  have hlocks := B.notSynchronized
  have hl := lv_entry ([.ref (A 0), .int x1]) (n := 2) (Nat.le_of_ble_eq_true rfl)
  rw [lg_entry_eq]
  generalize (lg_sl ([.ref (A 0), .int x1]) ++ List.replicate (2 - (lg_sl ([.ref (A 0), .int x1])).length) Slot.unset).toArray = ls at hl ⊢
  have hl : lv_has ls 2 [(0, .ref (A 0)), (1, .int x1)] := hl
  rw [f_P_wagon] at h
  refine lv_iload_n hx hb d_P_wagon_0 rfl (lv_at hl 1 rfl) ?_
  refine lv_iconst (v := 1) hx hb d_P_wagon_1 (by decide) ?_
  refine lv_sipush (v := 5000) hx hb d_P_wagon_2 (by decide) ?_
  obtain ⟨r1, M2, hc, h⟩ := kb_cl_some h
  refine kb_calli0 (va_runS (As := [.int x1, .int (1 : Int32), .int (5000 : Int32)]) (rest := []) ⟨hx, hb, hml, hown, htw⟩ (c_P_isWithin l D A G x1 (1 : Int32) (5000 : Int32) M0 _ _ s.heap.size hc) ⟨(callB_of 3 htw (wsC_self mC_108) rfl rfl rfl (htw _ mC_0) (htw _ mC_106) q_P_isWithin ⟨by show 0 + 1 ≤ 1; omega, by show 8 + (3 + 11) + 0 ≤ 22; omega⟩), htw _ mC_107⟩ (kb_preS nnC_warm nnC_same hw hN ) rfl rfl hl.1 rfl (lv_room (Nat.le_of_ble_eq_true rfl)) d_P_wagon_5 ⟨Nat.zero_le _, Nat.zero_le _⟩) hw (fun H locs hw => ?_)
  refine lv_if_ne (tgt := 21) hx hb d_P_wagon_8 (by decide) (fun c => ?_) (fun c => ?_)
  · have h := kb_in c h
    refine lv_aload_n hx hb d_P_wagon_21 rfl (lv_at hl 0 rfl) ?_
    refine kb_get (own := "PileLifts") (ref := "PileLifts") (C := R_P) (T := F_P) (N := 3) hx hb htw i_P hown hw 0 (wC_0 A G _) rfl 2 (by decide) (htw _ mC_79) rfl rfl d_P_wagon_22 ?_
    refine kb_getN (own := "PileLifts") (ref := "PileLifts$Wagons") (C := R_W) (T := F_W) (N := 4) hx hb htw i_W hown hw 3 (wC_3 A G _) rfl 0 (by decide) (va_Nw.use rfl (nf_P_166 hN)) rfl rfl d_P_wagon_25 ?_
    refine lv_iconst (v := 4) hx hb d_P_wagon_28 (by decide) ?_
    refine lv_icmp_lt (tgt := 42) hx hb d_P_wagon_29 (by decide) (fun c => ?_) (fun c => ?_)
    · have h := kb_ip c h
      refine lv_aload_n hx hb d_P_wagon_42 rfl (lv_at hl 0 rfl) ?_
      refine kb_get (own := "PileLifts") (ref := "PileLifts") (C := R_P) (T := F_P) (N := 3) hx hb htw i_P hown hw 0 (wC_0 A G _) rfl 2 (by decide) (htw _ mC_79) rfl rfl d_P_wagon_43 ?_
      refine lv_iload_n hx hb d_P_wagon_46 rfl (lv_at hl 1 rfl) ?_
      obtain ⟨r3, M4, hc, h⟩ := kb_cl_some h
      refine kb_calli0 (va_runVN (As := [.int x1]) (rest := []) ⟨hx, hb, hml, hown, htw⟩ (c_W_add l D A G x1 M2 _ _ H.size hc) ⟨(va_cnB 1 htw (wsC_self mC_221) rfl rfl rfl (nm_P_171 hN) (htw _ mC_3) q_W_add ⟨by show 0 + 1 ≤ 1; omega, by show 8 + (3 + 11) + 0 ≤ 22; omega⟩), htw _ mC_220, htw _ mC_263⟩ (kb_preV nnC_warm nnC_same hw hN 3 (wC_3 A G _) rfl) rfl rfl hl.1 rfl (lv_room (Nat.le_of_ble_eq_true rfl)) d_P_wagon_47 ⟨Nat.zero_le _, Nat.zero_le _⟩) hw (fun H locs hw => ?_)
      obtain ⟨rfl, rfl⟩ := kb_rt h
      exact kb_iret hx hb hr hw hlocks d_P_wagon_50
    · have h := kb_in c h
      exact absurd h (by simp)
  · have h := kb_ip c h
    exact absurd h (by simp)
def h_W_firstWithRoom_2 : Nat → Int32 → Int32 → (Nat → Nat → Int32) → Option (Int32 × (Nat → Nat → Int32))
  | 0, _, _, _ => none
  | n + 1, u1, u2, M => (if (M 3 0) ≤ u2 then some ((-1 : Int32), M) else kb_rd (M 15) 4 u2 (fun v1 => kb_rd (M 14) 4 u2 (fun v2 => (if v2 < (v1 + u1) then h_W_firstWithRoom_2 n u1 (u2 + 1) M else some (u2, M)))))
def f_W_firstWithRoom (x1 : Int32) (M0 : Nat → Nat → Int32) : Option (Int32 × (Nat → Nat → Int32)) := h_W_firstWithRoom_2 kb_F x1 (0 : Int32) M0
set_option maxHeartbeats 4000000 in
set_option maxRecDepth 100000 in
theorem c_W_firstWithRoom (l : Launch) (D : va_G) (A : Nat → Nat) (G : Nat → ClassId) (x1 : Int32) (M0 : Nat → Nat → Int32) (r : Int32) (M' : Nat → Nat → Int32) (sz : Nat) (h : f_W_firstWithRoom x1 M0 = some (r, M')) : kb_Ci l y_W_firstWithRoom (Cond.code y_W_firstWithRoom b_W_firstWithRoom 3 (some .int) :: wsC) { frames := 0, cells := 0, slots := 0, locals := 0 } [.ref (A 3), .int x1] D kcl (tyC G) (wC A G M0) (wC A G M') nnC sz r := by
  refine Met.ofW (cc := b_W_firstWithRoom) (maxL := 3) (ret := (some .int)) (by decide) rfl ?_
  intro p e s m args below meth c s₁ B hml hv
  obtain ⟨rfl, hpre⟩ := hv
  obtain ⟨hw, hN⟩ := kb_enter hpre
  have hx := B.exec
  have hb := B.bytes
  have hr := B.returns
  have hts := atoms_spec (ws := (Cond.code y_W_firstWithRoom b_W_firstWithRoom 3 (some .int) :: wsC)) B.pre
  have htw : ∀ w ∈ wsC, w.before ([.ref (A 3), .int x1] : List Value).toArray s = true := fun w h => hts w (List.mem_cons_of_mem _ h)
  have hown : s.vm.findClass "PileLifts$Wagons" = some m.cls := findClass_of_methodNamed B.named
  have hlocks := B.notSynchronized
  have loop_2 : ∀ (n2 : Nat) (u1 u2 : Int32) (M : Nat → Nat → Int32) (H : Heap) (locs : List Loc) (ls : Array Slot), h_W_firstWithRoom_2 n2 u1 u2 M = some (r, M') → kb_K D kcl (tyC G) (wC A G M) s (va_A (wC A G M0) sz) H locs → lv_has ls 3 [(0, .ref (A 3)), (1, .int u1), (2, .int u2)] → W p l e (headSpec (Cond.code y_W_firstWithRoom b_W_firstWithRoom 3 (some .int) :: wsC) { frames := 0, cells := 0, slots := 0, locals := 0 }).room s m ([.ref (A 3), .int x1] : List Value).toArray below meth c H locs 0 0 (kb_Qi D kcl (tyC G) (wC A G M0) (wC A G M') sz r below ([.ref (A 3), .int x1] : List Value).toArray s) (F0 m 2 ls []) := by
    intro n2
    induction n2 with
    | zero =>
      intro u1 u2 M H locs ls h
      cases h
    | succ n2 ih =>
      intro u1 u2 M H locs ls h hw hl
      rw [h_W_firstWithRoom_2] at h
      refine lv_iload_n hx hb d_W_firstWithRoom_2 rfl (lv_at hl 2 rfl) ?_
      refine lv_aload_n hx hb d_W_firstWithRoom_3 rfl (lv_at hl 0 rfl) ?_
      refine kb_get (own := "PileLifts$Wagons") (ref := "PileLifts$Wagons") (C := R_W) (T := F_W) (N := 4) hx hb htw i_W hown hw 3 (wC_3 A G _) rfl 0 (by decide) (htw _ mC_69) rfl rfl d_W_firstWithRoom_4 ?_
      refine lv_icmp_ge (tgt := 35) hx hb d_W_firstWithRoom_7 (by decide) (fun c => ?_) (fun c => ?_)
      · have h := kb_ip c h
        refine lv_iconst (v := -1) hx hb d_W_firstWithRoom_35 (by decide) ?_
        obtain ⟨rfl, rfl⟩ := kb_rt h
        exact kb_iret hx hb hr hw hlocks d_W_firstWithRoom_36
      · have h := kb_in c h
        refine lv_aload_n hx hb d_W_firstWithRoom_10 rfl (lv_at hl 0 rfl) ?_
        refine kb_get (own := "PileLifts$Wagons") (ref := "PileLifts$Wagons") (C := R_W) (T := F_W) (N := 4) hx hb htw i_W hown hw 3 (wC_3 A G _) rfl 2 (by decide) (htw _ mC_71) rfl rfl d_W_firstWithRoom_11 ?_
        refine lv_iload_n hx hb d_W_firstWithRoom_14 rfl (lv_at hl 2 rfl) ?_
        obtain ⟨v1, ev1, hi, h⟩ := kb_rd_some h
        refine kb_ald hx hb hw 15 11 rfl rfl hi ev1 d_W_firstWithRoom_15 ?_
        refine lv_iload_n hx hb d_W_firstWithRoom_16 rfl (lv_at hl 1 rfl) ?_
        refine lv_iadd hx hb d_W_firstWithRoom_17 ?_
        refine lv_aload_n hx hb d_W_firstWithRoom_18 rfl (lv_at hl 0 rfl) ?_
        refine kb_get (own := "PileLifts$Wagons") (ref := "PileLifts$Wagons") (C := R_W) (T := F_W) (N := 4) hx hb htw i_W hown hw 3 (wC_3 A G _) rfl 1 (by decide) (htw _ mC_70) rfl rfl d_W_firstWithRoom_19 ?_
        refine lv_iload_n hx hb d_W_firstWithRoom_22 rfl (lv_at hl 2 rfl) ?_
        obtain ⟨v2, ev2, hi, h⟩ := kb_rd_some h
        refine kb_ald hx hb hw 14 10 rfl rfl hi ev2 d_W_firstWithRoom_23 ?_
        refine lv_icmp_gt (tgt := 29) hx hb d_W_firstWithRoom_24 (by decide) (fun c => ?_) (fun c => ?_)
        · have h := kb_ip c h
          refine lv_iinc (v := (u2 + 1)) (lv' := [(2, .int (u2 + 1)), (0, .ref (A 3)), (1, .int u1)]) hx hb d_W_firstWithRoom_29 hl (k := 2) rfl rfl (by decide) rfl (fun ls hl => ?_)
          refine lv_goto (tgt := 2) hx hb d_W_firstWithRoom_32 (by decide) ?_
          exact ih u1 (u2 + 1) M _ _ _ h hw (lv_sub hl [1, 2, 0] rfl)
        · have h := kb_in c h
          refine lv_iload_n hx hb d_W_firstWithRoom_27 rfl (lv_at hl 2 rfl) ?_
          obtain ⟨rfl, rfl⟩ := kb_rt h
          exact kb_iret hx hb hr hw hlocks d_W_firstWithRoom_28
  have hl := lv_entry ([.ref (A 3), .int x1]) (n := 3) (Nat.le_of_ble_eq_true rfl)
  rw [lg_entry_eq]
  generalize (lg_sl ([.ref (A 3), .int x1]) ++ List.replicate (3 - (lg_sl ([.ref (A 3), .int x1])).length) Slot.unset).toArray = ls at hl ⊢
  have hl : lv_has ls 3 [(0, .ref (A 3)), (1, .int x1)] := hl
  rw [f_W_firstWithRoom] at h
  refine lv_iconst (v := 0) hx hb d_W_firstWithRoom_0 (by decide) ?_
  refine lv_istore_n (lv' := [(2, .int (0 : Int32)), (0, .ref (A 3)), (1, .int x1)]) hx hb d_W_firstWithRoom_1 rfl hl (by decide) rfl (fun ls hl => ?_)
  exact loop_2 kb_F x1 (0 : Int32) M0 _ _ _ h hw (lv_sub hl [1, 2, 0] rfl)
def f_W_fill (x1 x2 x3 : Int32) (M0 : Nat → Nat → Int32) : Option (Int32 × (Nat → Nat → Int32)) := kb_rd (M0 15) 4 x1 (fun v1 => kb_wr M0 15 4 x1 (v1 + x3) (fun M2 => kb_wr M2 16 10 x2 x1 (fun M3 => some ((0 : Int32), M3))))
set_option maxHeartbeats 4000000 in
set_option maxRecDepth 100000 in
theorem c_W_fill (l : Launch) (D : va_G) (A : Nat → Nat) (G : Nat → ClassId) (x1 x2 x3 : Int32) (M0 : Nat → Nat → Int32) (r : Int32) (M' : Nat → Nat → Int32) (sz : Nat) (h : f_W_fill x1 x2 x3 M0 = some (r, M')) : kb_Cv l y_W_fill (Cond.code y_W_fill b_W_fill 4 none :: wsC) { frames := 0, cells := 0, slots := 0, locals := 0 } [.ref (A 3), .int x1, .int x2, .int x3] D kcl (tyC G) (wC A G M0) (wC A G M') nnC sz := by
  refine Met.ofW (cc := b_W_fill) (maxL := 4) (ret := none) (by decide) rfl ?_
  intro p e s m args below meth c s₁ B hml hv
  obtain ⟨rfl, hpre⟩ := hv
  obtain ⟨hw, hN⟩ := kb_enter hpre
  have hx := B.exec
  have hb := B.bytes
  have hr := B.returns
  have hts := atoms_spec (ws := (Cond.code y_W_fill b_W_fill 4 none :: wsC)) B.pre
  have htw : ∀ w ∈ wsC, w.before ([.ref (A 3), .int x1, .int x2, .int x3] : List Value).toArray s = true := fun w h => hts w (List.mem_cons_of_mem _ h)
  have hown : s.vm.findClass "PileLifts$Wagons" = some m.cls := findClass_of_methodNamed B.named
  have hlocks := B.notSynchronized
  have hl := lv_entry ([.ref (A 3), .int x1, .int x2, .int x3]) (n := 4) (Nat.le_of_ble_eq_true rfl)
  rw [lg_entry_eq]
  generalize (lg_sl ([.ref (A 3), .int x1, .int x2, .int x3]) ++ List.replicate (4 - (lg_sl ([.ref (A 3), .int x1, .int x2, .int x3])).length) Slot.unset).toArray = ls at hl ⊢
  have hl : lv_has ls 4 [(0, .ref (A 3)), (1, .int x1), (2, .int x2), (3, .int x3)] := hl
  rw [f_W_fill] at h
  refine lv_aload_n hx hb d_W_fill_0 rfl (lv_at hl 0 rfl) ?_
  refine kb_get (own := "PileLifts$Wagons") (ref := "PileLifts$Wagons") (C := R_W) (T := F_W) (N := 4) hx hb htw i_W hown hw 3 (wC_3 A G _) rfl 2 (by decide) (htw _ mC_71) rfl rfl d_W_fill_1 ?_
  refine lv_iload_n hx hb d_W_fill_4 rfl (lv_at hl 1 rfl) ?_
  refine lv_dup2_11 hx hb d_W_fill_5 rfl rfl ?_
  obtain ⟨v1, ev1, hi, h⟩ := kb_rd_some h
  refine kb_ald hx hb hw 15 11 rfl rfl hi ev1 d_W_fill_6 ?_
  refine lv_iload_n hx hb d_W_fill_7 rfl (lv_at hl 3 rfl) ?_
  refine lv_iadd hx hb d_W_fill_8 ?_
  obtain ⟨M2, eM2, hi, h⟩ := kb_wr_some h
  refine kb_ast (ws' := (wC A G M2)) hx hb hw 15 11 rfl rfl hi d_W_fill_9 (by rw [eM2]; rfl) (fun H locs hw => ?_)
  refine lv_aload_n hx hb d_W_fill_10 rfl (lv_at hl 0 rfl) ?_
  refine kb_get (own := "PileLifts$Wagons") (ref := "PileLifts$Wagons") (C := R_W) (T := F_W) (N := 4) hx hb htw i_W hown hw 3 (wC_3 A G _) rfl 3 (by decide) (htw _ mC_72) rfl rfl d_W_fill_11 ?_
  refine lv_iload_n hx hb d_W_fill_14 rfl (lv_at hl 2 rfl) ?_
  refine lv_iload_n hx hb d_W_fill_15 rfl (lv_at hl 1 rfl) ?_
  obtain ⟨M3, eM3, hi, h⟩ := kb_wr_some h
  refine kb_ast (ws' := (wC A G M3)) hx hb hw 16 12 rfl rfl hi d_W_fill_16 (by rw [eM3]; rfl) (fun H locs hw => ?_)
  obtain ⟨-, rfl⟩ := kb_rt h
  exact kb_vret hx hb hr hw hlocks d_W_fill_17
def f_P_load (x1 : Int32) (M0 : Nat → Nat → Int32) : Option (Int32 × (Nat → Nat → Int32)) := kb_cl (f_P_checkPiece x1 M0) (fun r1 M2 => kb_cl (f_Y_isGone x1 M2) (fun r3 M4 => (if r3 = (0 : Int32) then none else kb_rd (M4 16) 10 x1 (fun v5 => (if v5 = (-1 : Int32) then kb_rd (M4 6) 10 x1 (fun v6 => kb_cl (f_W_firstWithRoom v6 M4) (fun r7 M8 => (if r7 = (-1 : Int32) then none else kb_rd (M8 6) 10 x1 (fun v9 => kb_cl (f_W_fill r7 x1 v9 M8) (fun r10 M11 => some (r7, M11)))))) else none)))))
set_option maxHeartbeats 4000000 in
set_option maxRecDepth 100000 in
theorem c_P_load (l : Launch) (D : va_G) (A : Nat → Nat) (G : Nat → ClassId) (x1 : Int32) (M0 : Nat → Nat → Int32) (r : Int32) (M' : Nat → Nat → Int32) (sz : Nat) (h : f_P_load x1 M0 = some (r, M')) : kb_Ci l y_P_load (Cond.code y_P_load b_P_load 3 (some .int) :: wsC) { frames := 3, cells := 0, slots := 0, locals := 64 } [.ref (A 0), .int x1] D kcl (tyC G) (wC A G M0) (wC A G M') nnC sz r := by
  refine Met.ofW (cc := b_P_load) (maxL := 3) (ret := (some .int)) (by decide) rfl ?_
  intro p e s m args below meth c s₁ B hml hv
  obtain ⟨rfl, hpre⟩ := hv
  obtain ⟨hw, hN⟩ := kb_enter hpre
  have hx := B.exec
  have hb := B.bytes
  have hr := B.returns
  have hts := atoms_spec (ws := (Cond.code y_P_load b_P_load 3 (some .int) :: wsC)) B.pre
  have htw : ∀ w ∈ wsC, w.before ([.ref (A 0), .int x1] : List Value).toArray s = true := fun w h => hts w (List.mem_cons_of_mem _ h)
  have hown : s.vm.findClass "PileLifts" = some m.cls := findClass_of_methodNamed B.named
  have hlocks := B.notSynchronized
  have hl := lv_entry ([.ref (A 0), .int x1]) (n := 3) (Nat.le_of_ble_eq_true rfl)
  rw [lg_entry_eq]
  generalize (lg_sl ([.ref (A 0), .int x1]) ++ List.replicate (3 - (lg_sl ([.ref (A 0), .int x1])).length) Slot.unset).toArray = ls at hl ⊢
  have hl : lv_has ls 3 [(0, .ref (A 0)), (1, .int x1)] := hl
  rw [f_P_load] at h
  refine lv_aload_n hx hb d_P_load_0 rfl (lv_at hl 0 rfl) ?_
  refine lv_iload_n hx hb d_P_load_1 rfl (lv_at hl 1 rfl) ?_
  obtain ⟨r1, M2, hc, h⟩ := kb_cl_some h
  refine kb_callv0 (va_runV (As := [.int x1]) (rest := []) ⟨hx, hb, hml, hown, htw⟩ (c_P_checkPiece l D A G x1 M0 _ _ s.heap.size hc) ⟨(callB_of 1 htw (wsC_self mC_137) rfl rfl rfl (htw _ mC_0) (htw _ mC_135) q_P_checkPiece ⟨by show 2 + 1 ≤ 3; omega, by show 8 + (2 + 11) + 43 ≤ 64; omega⟩), htw _ mC_136, htw _ mC_243⟩ (kb_preV nnC_warm nnC_same hw hN 0 (wC_0 A G _) rfl) rfl rfl hl.1 rfl (lv_room (Nat.le_of_ble_eq_true rfl)) d_P_load_2 ⟨Nat.zero_le _, Nat.zero_le _⟩) hw (fun H locs hw => ?_)
  refine lv_aload_n hx hb d_P_load_5 rfl (lv_at hl 0 rfl) ?_
  refine kb_get (own := "PileLifts") (ref := "PileLifts") (C := R_P) (T := F_P) (N := 3) hx hb htw i_P hown hw 0 (wC_0 A G _) rfl 0 (by decide) (htw _ mC_77) rfl rfl d_P_load_6 ?_
  refine lv_iload_n hx hb d_P_load_9 rfl (lv_at hl 1 rfl) ?_
  obtain ⟨r3, M4, hc, h⟩ := kb_cl_some h
  refine kb_calli0 (va_runVN (As := [.int x1]) (rest := []) ⟨hx, hb, hml, hown, htw⟩ (c_Y_isGone l D A G x1 M2 _ _ H.size hc) ⟨(va_cnB 1 htw (wsC_self mC_93) rfl rfl rfl (nm_P_82 hN) (htw _ mC_1) q_Y_isGone ⟨by show 0 + 1 ≤ 3; omega, by show 8 + (2 + 11) + 0 ≤ 64; omega⟩), htw _ mC_92, htw _ mC_233⟩ (kb_preV nnC_warm nnC_same hw hN 1 (wC_1 A G _) rfl) rfl rfl hl.1 rfl (lv_room (Nat.le_of_ble_eq_true rfl)) d_P_load_10 ⟨Nat.zero_le _, Nat.zero_le _⟩) hw (fun H locs hw => ?_)
  refine lv_if_eq (tgt := 29) hx hb d_P_load_13 (by decide) (fun c => ?_) (fun c => ?_)
  · have h := kb_ip c h
    exact absurd h (by simp)
  · have h := kb_in c h
    refine lv_aload_n hx hb d_P_load_16 rfl (lv_at hl 0 rfl) ?_
    refine kb_get (own := "PileLifts") (ref := "PileLifts") (C := R_P) (T := F_P) (N := 3) hx hb htw i_P hown hw 0 (wC_0 A G _) rfl 2 (by decide) (htw _ mC_79) rfl rfl d_P_load_17 ?_
    refine kb_getN (own := "PileLifts") (ref := "PileLifts$Wagons") (C := R_W) (T := F_W) (N := 4) hx hb htw i_W hown hw 3 (wC_3 A G _) rfl 3 (by decide) (va_Nw.use rfl (nf_P_153 hN)) rfl rfl d_P_load_20 ?_
    refine lv_iload_n hx hb d_P_load_23 rfl (lv_at hl 1 rfl) ?_
    obtain ⟨v5, ev5, hi, h⟩ := kb_rd_some h
    refine kb_ald hx hb hw 16 12 rfl rfl hi ev5 d_P_load_24 ?_
    refine lv_iconst (v := -1) hx hb d_P_load_25 (by decide) ?_
    refine lv_icmp_eq (tgt := 39) hx hb d_P_load_26 (by decide) (fun c => ?_) (fun c => ?_)
    · have h := kb_ip c h
      refine lv_aload_n hx hb d_P_load_39 rfl (lv_at hl 0 rfl) ?_
      refine kb_get (own := "PileLifts") (ref := "PileLifts") (C := R_P) (T := F_P) (N := 3) hx hb htw i_P hown hw 0 (wC_0 A G _) rfl 2 (by decide) (htw _ mC_79) rfl rfl d_P_load_40 ?_
      refine lv_aload_n hx hb d_P_load_43 rfl (lv_at hl 0 rfl) ?_
      refine kb_get (own := "PileLifts") (ref := "PileLifts") (C := R_P) (T := F_P) (N := 3) hx hb htw i_P hown hw 0 (wC_0 A G _) rfl 0 (by decide) (htw _ mC_77) rfl rfl d_P_load_44 ?_
      refine kb_getN (own := "PileLifts") (ref := "PileLifts$Yard") (C := R_Y) (T := F_Y) (N := 10) hx hb htw i_Y hown hw 1 (wC_1 A G _) rfl 5 (by decide) (va_Nw.use rfl (nf_P_176 hN)) rfl rfl d_P_load_47 ?_
      refine lv_iload_n hx hb d_P_load_50 rfl (lv_at hl 1 rfl) ?_
      obtain ⟨v6, ev6, hi, h⟩ := kb_rd_some h
      refine kb_ald hx hb hw 6 2 rfl rfl hi ev6 d_P_load_51 ?_
      obtain ⟨r7, M8, hc, h⟩ := kb_cl_some h
      refine kb_calli0 (va_runVN (As := [.int v6]) (rest := []) ⟨hx, hb, hml, hown, htw⟩ (c_W_firstWithRoom l D A G v6 M4 _ _ H.size hc) ⟨(va_cnB 1 htw (wsC_self mC_226) rfl rfl rfl (nm_P_179 hN) (htw _ mC_3) q_W_firstWithRoom ⟨by show 0 + 1 ≤ 3; omega, by show 8 + (3 + 11) + 0 ≤ 64; omega⟩), htw _ mC_225, htw _ mC_264⟩ (kb_preV nnC_warm nnC_same hw hN 3 (wC_3 A G _) rfl) rfl rfl hl.1 rfl (lv_room (Nat.le_of_ble_eq_true rfl)) d_P_load_52 ⟨Nat.zero_le _, Nat.zero_le _⟩) hw (fun H locs hw => ?_)
      refine lv_istore_n (lv' := [(2, .int r7), (0, .ref (A 0)), (1, .int x1)]) hx hb d_P_load_55 rfl hl (by decide) rfl (fun ls hl => ?_)
      refine lv_iload_n hx hb d_P_load_56 rfl (lv_at hl 0 rfl) ?_
      refine lv_iconst (v := -1) hx hb d_P_load_57 (by decide) ?_
      refine lv_icmp_ne (tgt := 71) hx hb d_P_load_58 (by decide) (fun c => ?_) (fun c => ?_)
      · have h := kb_in c h
        refine lv_aload_n hx hb d_P_load_71 rfl (lv_at hl 1 rfl) ?_
        refine kb_get (own := "PileLifts") (ref := "PileLifts") (C := R_P) (T := F_P) (N := 3) hx hb htw i_P hown hw 0 (wC_0 A G _) rfl 2 (by decide) (htw _ mC_79) rfl rfl d_P_load_72 ?_
        refine lv_iload_n hx hb d_P_load_75 rfl (lv_at hl 0 rfl) ?_
        refine lv_iload_n hx hb d_P_load_76 rfl (lv_at hl 2 rfl) ?_
        refine lv_aload_n hx hb d_P_load_77 rfl (lv_at hl 1 rfl) ?_
        refine kb_get (own := "PileLifts") (ref := "PileLifts") (C := R_P) (T := F_P) (N := 3) hx hb htw i_P hown hw 0 (wC_0 A G _) rfl 0 (by decide) (htw _ mC_77) rfl rfl d_P_load_78 ?_
        refine kb_getN (own := "PileLifts") (ref := "PileLifts$Yard") (C := R_Y) (T := F_Y) (N := 10) hx hb htw i_Y hown hw 1 (wC_1 A G _) rfl 5 (by decide) (va_Nw.use rfl (nf_P_176 hN)) rfl rfl d_P_load_81 ?_
        refine lv_iload_n hx hb d_P_load_84 rfl (lv_at hl 2 rfl) ?_
        obtain ⟨v9, ev9, hi, h⟩ := kb_rd_some h
        refine kb_ald hx hb hw 6 2 rfl rfl hi ev9 d_P_load_85 ?_
        obtain ⟨r10, M11, hc, h⟩ := kb_cl_some h
        refine kb_callv0 (va_runVN (As := [.int r7, .int x1, .int v9]) (rest := []) ⟨hx, hb, hml, hown, htw⟩ (c_W_fill l D A G r7 x1 v9 M8 _ _ H.size hc) ⟨(va_cnB 3 htw (wsC_self mC_228) rfl rfl rfl (nm_P_184 hN) (htw _ mC_3) q_W_fill ⟨by show 0 + 1 ≤ 3; omega, by show 8 + (4 + 11) + 0 ≤ 64; omega⟩), htw _ mC_227, htw _ mC_265⟩ (kb_preV nnC_warm nnC_same hw hN 3 (wC_3 A G _) rfl) rfl rfl hl.1 rfl (lv_room (Nat.le_of_ble_eq_true rfl)) d_P_load_86 ⟨Nat.zero_le _, Nat.zero_le _⟩) hw (fun H locs hw => ?_)
        refine lv_iload_n hx hb d_P_load_89 rfl (lv_at hl 0 rfl) ?_
        obtain ⟨rfl, rfl⟩ := kb_rt h
        exact kb_iret hx hb hr hw hlocks d_P_load_90
      · have h := kb_ip c h
        exact absurd h (by simp)
    · have h := kb_in c h
      exact absurd h (by simp)
