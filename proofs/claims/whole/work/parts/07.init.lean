def kz : Nat → Nat → Int32 := fun _ _ => 0
def wY (A : Nat → Nat) (G : Nat → ClassId) (M : Nat → Nat → Int32) : va_W := [(A 0, .inr (1, [.int (M 0 0), .int (M 0 1), .int (M 0 2), .ref (A 1), .ref (A 2), .ref (A 3), .ref (A 4), .ref (A 5), .ref (A 6), .ref (A 7)])), (A 1, .inl (G 1, 4, .inl (M 1))), (A 2, .inl (G 2, 20, .inl (M 2))), (A 3, .inl (G 3, 10, .inl (M 3))), (A 4, .inl (G 4, 10, .inl (M 4))), (A 5, .inl (G 5, 10, .inl (M 5))), (A 6, .inl (G 6, 10, .inl (M 6))), (A 7, .inl (G 7, 10, .inl (M 7)))]
def tyY (G : Nat → ClassId) : List (ClassId × FieldType) := [(G 1, .int), (G 2, .int), (G 3, .int), (G 4, .int), (G 5, .int), (G 6, .int), (G 7, .int)]
theorem wY_0 (A : Nat → Nat) (G : Nat → ClassId) (M : Nat → Nat → Int32) : (wY A G M)[0]? = some (A 0, .inr (1, [.int (M 0 0), .int (M 0 1), .int (M 0 2), .ref (A 1), .ref (A 2), .ref (A 3), .ref (A 4), .ref (A 5), .ref (A 6), .ref (A 7)])) := rfl
theorem wY_1 (A : Nat → Nat) (G : Nat → ClassId) (M : Nat → Nat → Int32) : (wY A G M)[1]? = some (A 1, .inl (G 1, 4, .inl (M 1))) := rfl
theorem wY_2 (A : Nat → Nat) (G : Nat → ClassId) (M : Nat → Nat → Int32) : (wY A G M)[2]? = some (A 2, .inl (G 2, 20, .inl (M 2))) := rfl
theorem wY_3 (A : Nat → Nat) (G : Nat → ClassId) (M : Nat → Nat → Int32) : (wY A G M)[3]? = some (A 3, .inl (G 3, 10, .inl (M 3))) := rfl
theorem wY_4 (A : Nat → Nat) (G : Nat → ClassId) (M : Nat → Nat → Int32) : (wY A G M)[4]? = some (A 4, .inl (G 4, 10, .inl (M 4))) := rfl
theorem wY_5 (A : Nat → Nat) (G : Nat → ClassId) (M : Nat → Nat → Int32) : (wY A G M)[5]? = some (A 5, .inl (G 5, 10, .inl (M 5))) := rfl
theorem wY_6 (A : Nat → Nat) (G : Nat → ClassId) (M : Nat → Nat → Int32) : (wY A G M)[6]? = some (A 6, .inl (G 6, 10, .inl (M 6))) := rfl
theorem wY_7 (A : Nat → Nat) (G : Nat → ClassId) (M : Nat → Nat → Int32) : (wY A G M)[7]? = some (A 7, .inl (G 7, 10, .inl (M 7))) := rfl
def wS (A : Nat → Nat) (G : Nat → ClassId) (M : Nat → Nat → Int32) : va_W := [(A 0, .inr (2, [.int (M 0 0), .int (M 0 1), .int (M 0 2), .int (M 0 3), .int (M 0 4), .int (M 0 5), .int (M 0 6), .ref (A 1), .ref (A 2), .ref (A 3)])), (A 1, .inl (G 1, 22, .inl (M 1))), (A 2, .inl (G 2, 22, .inl (M 2))), (A 3, .inl (G 3, 22, .inl (M 3)))]
def tyS (G : Nat → ClassId) : List (ClassId × FieldType) := [(G 1, .int), (G 2, .int), (G 3, .int)]
theorem wS_0 (A : Nat → Nat) (G : Nat → ClassId) (M : Nat → Nat → Int32) : (wS A G M)[0]? = some (A 0, .inr (2, [.int (M 0 0), .int (M 0 1), .int (M 0 2), .int (M 0 3), .int (M 0 4), .int (M 0 5), .int (M 0 6), .ref (A 1), .ref (A 2), .ref (A 3)])) := rfl
theorem wS_1 (A : Nat → Nat) (G : Nat → ClassId) (M : Nat → Nat → Int32) : (wS A G M)[1]? = some (A 1, .inl (G 1, 22, .inl (M 1))) := rfl
theorem wS_2 (A : Nat → Nat) (G : Nat → ClassId) (M : Nat → Nat → Int32) : (wS A G M)[2]? = some (A 2, .inl (G 2, 22, .inl (M 2))) := rfl
theorem wS_3 (A : Nat → Nat) (G : Nat → ClassId) (M : Nat → Nat → Int32) : (wS A G M)[3]? = some (A 3, .inl (G 3, 22, .inl (M 3))) := rfl
def wW (A : Nat → Nat) (G : Nat → ClassId) (M : Nat → Nat → Int32) : va_W := [(A 0, .inr (3, [.int (M 0 0), .ref (A 1), .ref (A 2), .ref (A 3)])), (A 1, .inl (G 1, 4, .inl (M 1))), (A 2, .inl (G 2, 4, .inl (M 2))), (A 3, .inl (G 3, 10, .inl (M 3)))]
def tyW (G : Nat → ClassId) : List (ClassId × FieldType) := [(G 1, .int), (G 2, .int), (G 3, .int)]
theorem wW_0 (A : Nat → Nat) (G : Nat → ClassId) (M : Nat → Nat → Int32) : (wW A G M)[0]? = some (A 0, .inr (3, [.int (M 0 0), .ref (A 1), .ref (A 2), .ref (A 3)])) := rfl
theorem wW_1 (A : Nat → Nat) (G : Nat → ClassId) (M : Nat → Nat → Int32) : (wW A G M)[1]? = some (A 1, .inl (G 1, 4, .inl (M 1))) := rfl
theorem wW_2 (A : Nat → Nat) (G : Nat → ClassId) (M : Nat → Nat → Int32) : (wW A G M)[2]? = some (A 2, .inl (G 2, 4, .inl (M 2))) := rfl
theorem wW_3 (A : Nat → Nat) (G : Nat → ClassId) (M : Nat → Nat → Int32) : (wW A G M)[3]? = some (A 3, .inl (G 3, 10, .inl (M 3))) := rfl
def h2_Y_clear_17 : Nat → Int32 → (Nat → Nat → Int32) → Option (Int32 × (Nat → Nat → Int32))
  | 0, _, _ => none
  | n + 1, u3, M => (if (4 : Int32) ≤ u3 then some ((0 : Int32), M) else kb_wr M 1 4 u3 (0 : Int32) (fun M4 => h2_Y_clear_17 n (u3 + 1) M4))
def f2_Y_clear (x1 x2 : Int32) (M0 : Nat → Nat → Int32) : Option (Int32 × (Nat → Nat → Int32)) := kb_st (kb_up M0 0 (upd (M0 0) 0 x1)) (fun M1 => kb_st (kb_up M1 0 (upd (M1 0) 1 x2)) (fun M2 => kb_st (kb_up M2 0 (upd (M2 0) 2 (0 : Int32))) (fun M3 => h2_Y_clear_17 kb_F (0 : Int32) M3)))
set_option maxHeartbeats 4000000 in
set_option maxRecDepth 100000 in
theorem c2_Y_clear (l : Launch) (D : va_G) (A : Nat → Nat) (G : Nat → ClassId) (x1 x2 : Int32) (M0 : Nat → Nat → Int32) (r : Int32) (M' : Nat → Nat → Int32) (sz : Nat) (h : f2_Y_clear x1 x2 M0 = some (r, M')) : kb_Cv l y_Y_clear (Cond.code y_Y_clear b_Y_clear 4 none :: wsC) { frames := 0, cells := 0, slots := 0, locals := 0 } [.ref (A 0), .int x1, .int x2] D kcl (tyY G) (wY A G M0) (wY A G M') nnC sz := by
  refine Met.ofW (cc := b_Y_clear) (maxL := 4) (ret := none) (by decide) rfl ?_
  intro p e s m args below meth c s₁ B hml hv
  obtain ⟨rfl, hpre⟩ := hv
  obtain ⟨hw, hN⟩ := kb_enter hpre
  have hx := B.exec
  have hb := B.bytes
  have hr := B.returns
  have hts := atoms_spec (ws := (Cond.code y_Y_clear b_Y_clear 4 none :: wsC)) B.pre
  have htw : ∀ w ∈ wsC, w.before ([.ref (A 0), .int x1, .int x2] : List Value).toArray s = true := fun w h => hts w (List.mem_cons_of_mem _ h)
  have hown : s.vm.findClass "PileLifts$Yard" = some m.cls := findClass_of_methodNamed B.named
  have hlocks := B.notSynchronized
  have loop_17 : ∀ (n17 : Nat) (u3 : Int32) (M : Nat → Nat → Int32) (H : Heap) (locs : List Loc) (ls : Array Slot), h2_Y_clear_17 n17 u3 M = some (r, M') → kb_K D kcl (tyY G) (wY A G M) s (va_A (wY A G M0) sz) H locs → lv_has ls 4 [(0, .ref (A 0)), (3, .int u3)] → W p l e (headSpec (Cond.code y_Y_clear b_Y_clear 4 none :: wsC) { frames := 0, cells := 0, slots := 0, locals := 0 }).room s m ([.ref (A 0), .int x1, .int x2] : List Value).toArray below meth c H locs 0 0 (kb_Qv D kcl (tyY G) (wY A G M0) (wY A G M') sz below ([.ref (A 0), .int x1, .int x2] : List Value).toArray s) (F0 m 17 ls []) := by
    intro n17
    induction n17 with
    | zero =>
      intro u3 M H locs ls h
      cases h
    | succ n17 ih =>
      intro u3 M H locs ls h hw hl
      rw [h2_Y_clear_17] at h
      refine lv_iload_n hx hb d_Y_clear_17 rfl (lv_at hl 1 rfl) ?_
      refine lv_iconst (v := 4) hx hb d_Y_clear_18 (by decide) ?_
      refine lv_icmp_ge (tgt := 35) hx hb d_Y_clear_19 (by decide) (fun c => ?_) (fun c => ?_)
      · have h := kb_ip c h
        obtain ⟨-, rfl⟩ := kb_rt h
        exact kb_vret hx hb hr hw hlocks d_Y_clear_35
      · have h := kb_in c h
        refine lv_aload_n hx hb d_Y_clear_22 rfl (lv_at hl 0 rfl) ?_
        refine kb_get (own := "PileLifts$Yard") (ref := "PileLifts$Yard") (C := R_Y) (T := F_Y) (N := 10) hx hb htw i_Y hown hw 0 (wY_0 A G _) rfl 3 (by decide) (htw _ mC_19) rfl rfl d_Y_clear_23 ?_
        refine lv_iload_n hx hb d_Y_clear_26 rfl (lv_at hl 1 rfl) ?_
        refine lv_iconst (v := 0) hx hb d_Y_clear_27 (by decide) ?_
        obtain ⟨M4, eM4, hi, h⟩ := kb_wr_some h
        refine kb_ast (ws' := (wY A G M4)) hx hb hw 1 0 rfl rfl hi d_Y_clear_28 (by rw [eM4]; rfl) (fun H locs hw => ?_)
        refine lv_iinc (v := (u3 + 1)) (lv' := [(3, .int (u3 + 1)), (0, .ref (A 0))]) hx hb d_Y_clear_29 hl (k := 1) rfl rfl (by decide) rfl (fun ls hl => ?_)
        refine lv_goto (tgt := 17) hx hb d_Y_clear_32 (by decide) ?_
        exact ih (u3 + 1) M4 _ _ _ h hw (lv_sub hl [1, 0] rfl)
  have hl := lv_entry ([.ref (A 0), .int x1, .int x2]) (n := 4) (Nat.le_of_ble_eq_true rfl)
  rw [lg_entry_eq]
  generalize (lg_sl ([.ref (A 0), .int x1, .int x2]) ++ List.replicate (4 - (lg_sl ([.ref (A 0), .int x1, .int x2])).length) Slot.unset).toArray = ls at hl ⊢
  have hl : lv_has ls 4 [(0, .ref (A 0)), (1, .int x1), (2, .int x2)] := hl
  rw [f2_Y_clear] at h
  refine lv_aload_n hx hb d_Y_clear_0 rfl (lv_at hl 0 rfl) ?_
  refine lv_iload_n hx hb d_Y_clear_1 rfl (lv_at hl 1 rfl) ?_
  obtain ⟨M1, eM1, h⟩ := kb_st_some h
  refine kb_put (ws' := (wY A G M1)) (own := "PileLifts$Yard") (ref := "PileLifts$Yard") (C := R_Y) (T := F_Y) (N := 10) (ty := .int) hx hb htw i_Y t_Y t_Y_ok n_Y hown hw 0 (wY_0 A G _) rfl 0 (by decide) (htw _ mC_16) rfl rfl (by decide +kernel) rfl rfl (Nat.le_of_ble_eq_true rfl) d_Y_clear_2 (by rw [eM1]; rfl) (fun H locs hw => ?_)
  refine lv_aload_n hx hb d_Y_clear_5 rfl (lv_at hl 0 rfl) ?_
  refine lv_iload_n hx hb d_Y_clear_6 rfl (lv_at hl 2 rfl) ?_
  obtain ⟨M2, eM2, h⟩ := kb_st_some h
  refine kb_put (ws' := (wY A G M2)) (own := "PileLifts$Yard") (ref := "PileLifts$Yard") (C := R_Y) (T := F_Y) (N := 10) (ty := .int) hx hb htw i_Y t_Y t_Y_ok n_Y hown hw 0 (wY_0 A G _) rfl 1 (by decide) (htw _ mC_17) rfl rfl (by decide +kernel) rfl rfl (Nat.le_of_ble_eq_true rfl) d_Y_clear_7 (by rw [eM2]; rfl) (fun H locs hw => ?_)
  refine lv_aload_n hx hb d_Y_clear_10 rfl (lv_at hl 0 rfl) ?_
  refine lv_iconst (v := 0) hx hb d_Y_clear_11 (by decide) ?_
  obtain ⟨M3, eM3, h⟩ := kb_st_some h
  refine kb_put (ws' := (wY A G M3)) (own := "PileLifts$Yard") (ref := "PileLifts$Yard") (C := R_Y) (T := F_Y) (N := 10) (ty := .int) hx hb htw i_Y t_Y t_Y_ok n_Y hown hw 0 (wY_0 A G _) rfl 2 (by decide) (htw _ mC_18) rfl rfl (by decide +kernel) rfl rfl (Nat.le_of_ble_eq_true rfl) d_Y_clear_12 (by rw [eM3]; rfl) (fun H locs hw => ?_)
  refine lv_iconst (v := 0) hx hb d_Y_clear_15 (by decide) ?_
  refine lv_istore_n (lv' := [(3, .int (0 : Int32)), (0, .ref (A 0)), (1, .int x1), (2, .int x2)]) hx hb d_Y_clear_16 rfl hl (by decide) rfl (fun ls hl => ?_)
  exact loop_17 kb_F (0 : Int32) M3 _ _ _ h hw (lv_sub hl [1, 0] rfl)
def h2_W_clear_7 : Nat → Int32 → (Nat → Nat → Int32) → Option (Int32 × (Nat → Nat → Int32))
  | 0, _, _ => none
  | n + 1, u1, M => (if (10 : Int32) ≤ u1 then some ((0 : Int32), M) else kb_wr M 3 10 u1 (-1 : Int32) (fun M2 => h2_W_clear_7 n (u1 + 1) M2))
def f2_W_clear (M0 : Nat → Nat → Int32) : Option (Int32 × (Nat → Nat → Int32)) := kb_st (kb_up M0 0 (upd (M0 0) 0 (0 : Int32))) (fun M1 => h2_W_clear_7 kb_F (0 : Int32) M1)
set_option maxHeartbeats 4000000 in
set_option maxRecDepth 100000 in
theorem c2_W_clear (l : Launch) (D : va_G) (A : Nat → Nat) (G : Nat → ClassId) (M0 : Nat → Nat → Int32) (r : Int32) (M' : Nat → Nat → Int32) (sz : Nat) (h : f2_W_clear M0 = some (r, M')) : kb_Cv l y_W_clear (Cond.code y_W_clear b_W_clear 2 none :: wsC) { frames := 0, cells := 0, slots := 0, locals := 0 } [.ref (A 0)] D kcl (tyW G) (wW A G M0) (wW A G M') nnC sz := by
  refine Met.ofW (cc := b_W_clear) (maxL := 2) (ret := none) (by decide) rfl ?_
  intro p e s m args below meth c s₁ B hml hv
  obtain ⟨rfl, hpre⟩ := hv
  obtain ⟨hw, hN⟩ := kb_enter hpre
  have hx := B.exec
  have hb := B.bytes
  have hr := B.returns
  have hts := atoms_spec (ws := (Cond.code y_W_clear b_W_clear 2 none :: wsC)) B.pre
  have htw : ∀ w ∈ wsC, w.before ([.ref (A 0)] : List Value).toArray s = true := fun w h => hts w (List.mem_cons_of_mem _ h)
  have hown : s.vm.findClass "PileLifts$Wagons" = some m.cls := findClass_of_methodNamed B.named
  have hlocks := B.notSynchronized
  have loop_7 : ∀ (n7 : Nat) (u1 : Int32) (M : Nat → Nat → Int32) (H : Heap) (locs : List Loc) (ls : Array Slot), h2_W_clear_7 n7 u1 M = some (r, M') → kb_K D kcl (tyW G) (wW A G M) s (va_A (wW A G M0) sz) H locs → lv_has ls 2 [(0, .ref (A 0)), (1, .int u1)] → W p l e (headSpec (Cond.code y_W_clear b_W_clear 2 none :: wsC) { frames := 0, cells := 0, slots := 0, locals := 0 }).room s m ([.ref (A 0)] : List Value).toArray below meth c H locs 0 0 (kb_Qv D kcl (tyW G) (wW A G M0) (wW A G M') sz below ([.ref (A 0)] : List Value).toArray s) (F0 m 7 ls []) := by
    intro n7
    induction n7 with
    | zero =>
      intro u1 M H locs ls h
      cases h
    | succ n7 ih =>
      intro u1 M H locs ls h hw hl
      rw [h2_W_clear_7] at h
      refine lv_iload_n hx hb d_W_clear_7 rfl (lv_at hl 1 rfl) ?_
      refine lv_bipush (v := 10) hx hb d_W_clear_8 (by decide) ?_
      refine lv_icmp_ge (tgt := 26) hx hb d_W_clear_10 (by decide) (fun c => ?_) (fun c => ?_)
      · have h := kb_ip c h
        obtain ⟨-, rfl⟩ := kb_rt h
        exact kb_vret hx hb hr hw hlocks d_W_clear_26
      · have h := kb_in c h
        refine lv_aload_n hx hb d_W_clear_13 rfl (lv_at hl 0 rfl) ?_
        refine kb_get (own := "PileLifts$Wagons") (ref := "PileLifts$Wagons") (C := R_W) (T := F_W) (N := 4) hx hb htw i_W hown hw 0 (wW_0 A G _) rfl 3 (by decide) (htw _ mC_72) rfl rfl d_W_clear_14 ?_
        refine lv_iload_n hx hb d_W_clear_17 rfl (lv_at hl 1 rfl) ?_
        refine lv_iconst (v := -1) hx hb d_W_clear_18 (by decide) ?_
        obtain ⟨M2, eM2, hi, h⟩ := kb_wr_some h
        refine kb_ast (ws' := (wW A G M2)) hx hb hw 3 2 rfl rfl hi d_W_clear_19 (by rw [eM2]; rfl) (fun H locs hw => ?_)
        refine lv_iinc (v := (u1 + 1)) (lv' := [(1, .int (u1 + 1)), (0, .ref (A 0))]) hx hb d_W_clear_20 hl (k := 1) rfl rfl (by decide) rfl (fun ls hl => ?_)
        refine lv_goto (tgt := 7) hx hb d_W_clear_23 (by decide) ?_
        exact ih (u1 + 1) M2 _ _ _ h hw (lv_sub hl [1, 0] rfl)
  have hl := lv_entry ([.ref (A 0)]) (n := 2) (Nat.le_of_ble_eq_true rfl)
  rw [lg_entry_eq]
  generalize (lg_sl ([.ref (A 0)]) ++ List.replicate (2 - (lg_sl ([.ref (A 0)])).length) Slot.unset).toArray = ls at hl ⊢
  have hl : lv_has ls 2 [(0, .ref (A 0))] := hl
  rw [f2_W_clear] at h
  refine lv_aload_n hx hb d_W_clear_0 rfl (lv_at hl 0 rfl) ?_
  refine lv_iconst (v := 0) hx hb d_W_clear_1 (by decide) ?_
  obtain ⟨M1, eM1, h⟩ := kb_st_some h
  refine kb_put (ws' := (wW A G M1)) (own := "PileLifts$Wagons") (ref := "PileLifts$Wagons") (C := R_W) (T := F_W) (N := 4) (ty := .int) hx hb htw i_W t_W t_W_ok n_W hown hw 0 (wW_0 A G _) rfl 0 (by decide) (htw _ mC_69) rfl rfl (by decide +kernel) rfl rfl (Nat.le_of_ble_eq_true rfl) d_W_clear_2 (by rw [eM1]; rfl) (fun H locs hw => ?_)
  refine lv_iconst (v := 0) hx hb d_W_clear_5 (by decide) ?_
  refine lv_istore_n (lv' := [(1, .int (0 : Int32)), (0, .ref (A 0))]) hx hb d_W_clear_6 rfl hl (by decide) rfl (fun ls hl => ?_)
  exact loop_7 kb_F (0 : Int32) M1 _ _ _ h hw (lv_sub hl [1, 0] rfl)
set_option maxHeartbeats 4000000 in
set_option maxRecDepth 100000 in
theorem ni_S (l : Launch) (D : va_G) (h0 sz : Nat) : Met l y_S_init (Cond.code y_S_init b_S_init 1 none :: wsC) { frames := 2, cells := 3, slots := 66, locals := 60 } (va_Pc [.ref h0] (kb_pre D kcl [] [(h0, .inr (2, [.int 0, .int 0, .int 0, .int 0, .int 0, .int 0, .int 0, .null, .null, .null]))] nnC sz)) (va_Qv (fun u : (Nat → Nat) × (Nat → ClassId) => u.1 0 = h0) (fun u t => kb_post D kcl (tyS u.2) [(h0, .inr (2, [.int 0, .int 0, .int 0, .int 0, .int 0, .int 0, .int 0, .null, .null, .null]))] (wS u.1 u.2 kz) sz t) (va_A [(h0, .inr (2, [.int 0, .int 0, .int 0, .int 0, .int 0, .int 0, .int 0, .null, .null, .null]))] sz)) 3 66 (va_A [(h0, .inr (2, [.int 0, .int 0, .int 0, .int 0, .int 0, .int 0, .int 0, .null, .null, .null]))] sz) := by
  refine Met.ofW (cc := b_S_init) (maxL := 1) (ret := none) (by decide) rfl ?_
  intro p e s m args below meth c s₁ B hml hv
  obtain ⟨rfl, hpre⟩ := hv
  obtain ⟨⟨hK, hP, hD, hS, hA⟩, hN⟩ := kb_enter hpre
  have hx := B.exec
  have hb := B.bytes
  have hr := B.returns
  have hts := atoms_spec (ws := (Cond.code y_S_init b_S_init 1 none :: wsC)) B.pre
  have htw : ∀ w ∈ wsC, w.before ([.ref h0] : List Value).toArray s = true := fun w h => hts w (List.mem_cons_of_mem _ h)
  have hown : s.vm.findClass "PileLifts$Search" = some m.cls := findClass_of_methodNamed B.named
  have hlocks := B.notSynchronized
  have hin : meth.name = "<init>" := (name_of_methodNamed B.named B.method).1
  have hl := lv_entry ([.ref h0]) (n := 1) (Nat.le_of_ble_eq_true rfl)
  rw [lg_entry_eq]
  generalize (lg_sl ([.ref h0]) ++ List.replicate (1 - (lg_sl ([.ref h0])).length) Slot.unset).toArray = ls at hl ⊢
  have hl : lv_has ls 1 [(0, .ref h0)] := hl
  refine lv_aload_n hx hb d_S_init_0 rfl (lv_at hl 0 rfl) ?_
  refine W.objInit hx hb hown (htw _ mC_40) (htw _ mC_266) (htw _ mC_267) rfl (by rw [hml]; exact hl.1) rfl d_S_init_1 (Nat.le_of_ble_eq_true rfl) (Nat.le_of_ble_eq_true rfl) ?_
  refine W.eq (g2 := F0 m 4 ls []) rfl ?_
  refine lv_aload_n hx hb d_S_init_4 rfl (lv_at hl 0 rfl) ?_
  refine lv_bipush (v := 22) hx hb d_S_init_5 (by decide) ?_
  refine va_newa (atype := .int) (a0 := (22, .inl (fun _ => 0))) (N' := 22) (ty := .int) hx hb (htw _ mC_268) rfl hK hP hD hS hA (fun _ => rfl) (by decide) (by decide) (by decide) (Nat.le_of_ble_eq_true rfl) (Nat.le_of_ble_eq_true rfl) d_S_init_7 (fun q1 c1 H hK hP hD hS => ?_)
  refine W.cs (cells' := 1) (slots' := 22) rfl rfl ?_
  have hP : va_P D kcl [(h0, .inr (2, [.int 0, .int 0, .int 0, .int 0, .int 0, .int 0, .int 0, .null, .null, .null])), (q1, .inl (c1, 22, .inl (fun _ => 0)))] H := hP
  have hD : va_D (va_A [(h0, .inr (2, [.int 0, .int 0, .int 0, .int 0, .int 0, .int 0, .int 0, .null, .null, .null]))] sz) [(h0, .inr (2, [.int 0, .int 0, .int 0, .int 0, .int 0, .int 0, .int 0, .null, .null, .null])), (q1, .inl (c1, 22, .inl (fun _ => 0)))] := hD
  have hK : va_K D kcl [(c1, .int)] s := hK
  refine va_putF (D := D) (ci := 2) (v := .ref q1) (ty := .array .int) (C := R_S) (T := F_S) (N := 10) hx hb htw i_S t_S t_S_ok n_S hown hK hP hD hS 0 rfl rfl 7 (by decide) (htw _ mC_48) (fun _ h9 => h9) rfl hin rfl (by decide +kernel) rfl rfl (Nat.le_of_ble_eq_true rfl) d_S_init_9 (fun H locs hP hD hS => ?_)
  have hP : va_P D kcl [(h0, .inr (2, [.int 0, .int 0, .int 0, .int 0, .int 0, .int 0, .int 0, .ref q1, .null, .null])), (q1, .inl (c1, 22, .inl (fun _ => 0)))] H := hP
  have hD : va_D (va_A [(h0, .inr (2, [.int 0, .int 0, .int 0, .int 0, .int 0, .int 0, .int 0, .null, .null, .null]))] sz) [(h0, .inr (2, [.int 0, .int 0, .int 0, .int 0, .int 0, .int 0, .int 0, .ref q1, .null, .null])), (q1, .inl (c1, 22, .inl (fun _ => 0)))] := hD
  refine lv_aload_n hx hb d_S_init_12 rfl (lv_at hl 0 rfl) ?_
  refine lv_bipush (v := 22) hx hb d_S_init_13 (by decide) ?_
  refine va_newa (atype := .int) (a0 := (22, .inl (fun _ => 0))) (N' := 22) (ty := .int) hx hb (htw _ mC_268) rfl hK hP hD hS hA (fun _ => rfl) (by decide) (by decide) (by decide) (Nat.le_of_ble_eq_true rfl) (Nat.le_of_ble_eq_true rfl) d_S_init_15 (fun q2 c2 H hK hP hD hS => ?_)
  refine W.cs (cells' := 2) (slots' := 44) rfl rfl ?_
  have hP : va_P D kcl [(h0, .inr (2, [.int 0, .int 0, .int 0, .int 0, .int 0, .int 0, .int 0, .ref q1, .null, .null])), (q1, .inl (c1, 22, .inl (fun _ => 0))), (q2, .inl (c2, 22, .inl (fun _ => 0)))] H := hP
  have hD : va_D (va_A [(h0, .inr (2, [.int 0, .int 0, .int 0, .int 0, .int 0, .int 0, .int 0, .null, .null, .null]))] sz) [(h0, .inr (2, [.int 0, .int 0, .int 0, .int 0, .int 0, .int 0, .int 0, .ref q1, .null, .null])), (q1, .inl (c1, 22, .inl (fun _ => 0))), (q2, .inl (c2, 22, .inl (fun _ => 0)))] := hD
  have hK : va_K D kcl [(c1, .int), (c2, .int)] s := hK
  refine va_putF (D := D) (ci := 2) (v := .ref q2) (ty := .array .int) (C := R_S) (T := F_S) (N := 10) hx hb htw i_S t_S t_S_ok n_S hown hK hP hD hS 0 rfl rfl 8 (by decide) (htw _ mC_49) (fun _ h9 => h9) rfl hin rfl (by decide +kernel) rfl rfl (Nat.le_of_ble_eq_true rfl) d_S_init_17 (fun H locs hP hD hS => ?_)
  have hP : va_P D kcl [(h0, .inr (2, [.int 0, .int 0, .int 0, .int 0, .int 0, .int 0, .int 0, .ref q1, .ref q2, .null])), (q1, .inl (c1, 22, .inl (fun _ => 0))), (q2, .inl (c2, 22, .inl (fun _ => 0)))] H := hP
  have hD : va_D (va_A [(h0, .inr (2, [.int 0, .int 0, .int 0, .int 0, .int 0, .int 0, .int 0, .null, .null, .null]))] sz) [(h0, .inr (2, [.int 0, .int 0, .int 0, .int 0, .int 0, .int 0, .int 0, .ref q1, .ref q2, .null])), (q1, .inl (c1, 22, .inl (fun _ => 0))), (q2, .inl (c2, 22, .inl (fun _ => 0)))] := hD
  refine lv_aload_n hx hb d_S_init_20 rfl (lv_at hl 0 rfl) ?_
  refine lv_bipush (v := 22) hx hb d_S_init_21 (by decide) ?_
  refine va_newa (atype := .int) (a0 := (22, .inl (fun _ => 0))) (N' := 22) (ty := .int) hx hb (htw _ mC_268) rfl hK hP hD hS hA (fun _ => rfl) (by decide) (by decide) (by decide) (Nat.le_of_ble_eq_true rfl) (Nat.le_of_ble_eq_true rfl) d_S_init_23 (fun q3 c3 H hK hP hD hS => ?_)
  refine W.cs (cells' := 3) (slots' := 66) rfl rfl ?_
  have hP : va_P D kcl [(h0, .inr (2, [.int 0, .int 0, .int 0, .int 0, .int 0, .int 0, .int 0, .ref q1, .ref q2, .null])), (q1, .inl (c1, 22, .inl (fun _ => 0))), (q2, .inl (c2, 22, .inl (fun _ => 0))), (q3, .inl (c3, 22, .inl (fun _ => 0)))] H := hP
  have hD : va_D (va_A [(h0, .inr (2, [.int 0, .int 0, .int 0, .int 0, .int 0, .int 0, .int 0, .null, .null, .null]))] sz) [(h0, .inr (2, [.int 0, .int 0, .int 0, .int 0, .int 0, .int 0, .int 0, .ref q1, .ref q2, .null])), (q1, .inl (c1, 22, .inl (fun _ => 0))), (q2, .inl (c2, 22, .inl (fun _ => 0))), (q3, .inl (c3, 22, .inl (fun _ => 0)))] := hD
  have hK : va_K D kcl [(c1, .int), (c2, .int), (c3, .int)] s := hK
  refine va_putF (D := D) (ci := 2) (v := .ref q3) (ty := .array .int) (C := R_S) (T := F_S) (N := 10) hx hb htw i_S t_S t_S_ok n_S hown hK hP hD hS 0 rfl rfl 9 (by decide) (htw _ mC_50) (fun _ h9 => h9) rfl hin rfl (by decide +kernel) rfl rfl (Nat.le_of_ble_eq_true rfl) d_S_init_25 (fun H locs hP hD hS => ?_)
  have hP : va_P D kcl [(h0, .inr (2, [.int 0, .int 0, .int 0, .int 0, .int 0, .int 0, .int 0, .ref q1, .ref q2, .ref q3])), (q1, .inl (c1, 22, .inl (fun _ => 0))), (q2, .inl (c2, 22, .inl (fun _ => 0))), (q3, .inl (c3, 22, .inl (fun _ => 0)))] H := hP
  have hD : va_D (va_A [(h0, .inr (2, [.int 0, .int 0, .int 0, .int 0, .int 0, .int 0, .int 0, .null, .null, .null]))] sz) [(h0, .inr (2, [.int 0, .int 0, .int 0, .int 0, .int 0, .int 0, .int 0, .ref q1, .ref q2, .ref q3])), (q1, .inl (c1, 22, .inl (fun _ => 0))), (q2, .inl (c2, 22, .inl (fun _ => 0))), (q3, .inl (c3, 22, .inl (fun _ => 0)))] := hD
  exact W.vret hx hb hr (fun t ht hW => ⟨⟨(fun k => [h0, q1, q2, q3].getD k 0, fun k => [0, c1, c2, c3].getD k 0), rfl, rfl, by rw [ht]; exact hP, va_K.moved hW.alike hK, hD⟩, hS.F ht⟩) hS.2.2 d_S_init_28
set_option maxHeartbeats 4000000 in
set_option maxRecDepth 100000 in
theorem ni_W (l : Launch) (D : va_G) (h0 sz : Nat) (MW : Nat → Nat → Int32) (hm : f2_W_clear kz = some (0, MW)) : Met l y_W_init (Cond.code y_W_init b_W_init 1 none :: wsC) { frames := 2, cells := 3, slots := 18, locals := 60 } (va_Pc [.ref h0] (kb_pre D kcl [] [(h0, .inr (3, [.int 0, .null, .null, .null]))] nnC sz)) (va_Qv (fun u : (Nat → Nat) × (Nat → ClassId) => u.1 0 = h0) (fun u t => kb_post D kcl (tyW u.2) [(h0, .inr (3, [.int 0, .null, .null, .null]))] (wW u.1 u.2 MW) sz t) (va_A [(h0, .inr (3, [.int 0, .null, .null, .null]))] sz)) 3 18 (va_A [(h0, .inr (3, [.int 0, .null, .null, .null]))] sz) := by
  refine Met.ofW (cc := b_W_init) (maxL := 1) (ret := none) (by decide) rfl ?_
  intro p e s m args below meth c s₁ B hml hv
  obtain ⟨rfl, hpre⟩ := hv
  obtain ⟨⟨hK, hP, hD, hS, hA⟩, hN⟩ := kb_enter hpre
  have hx := B.exec
  have hb := B.bytes
  have hr := B.returns
  have hts := atoms_spec (ws := (Cond.code y_W_init b_W_init 1 none :: wsC)) B.pre
  have htw : ∀ w ∈ wsC, w.before ([.ref h0] : List Value).toArray s = true := fun w h => hts w (List.mem_cons_of_mem _ h)
  have hown : s.vm.findClass "PileLifts$Wagons" = some m.cls := findClass_of_methodNamed B.named
  have hlocks := B.notSynchronized
  have hin : meth.name = "<init>" := (name_of_methodNamed B.named B.method).1
  have hl := lv_entry ([.ref h0]) (n := 1) (Nat.le_of_ble_eq_true rfl)
  rw [lg_entry_eq]
  generalize (lg_sl ([.ref h0]) ++ List.replicate (1 - (lg_sl ([.ref h0])).length) Slot.unset).toArray = ls at hl ⊢
  have hl : lv_has ls 1 [(0, .ref h0)] := hl
  refine lv_aload_n hx hb d_W_init_0 rfl (lv_at hl 0 rfl) ?_
  refine W.objInit hx hb hown (htw _ mC_65) (htw _ mC_266) (htw _ mC_267) rfl (by rw [hml]; exact hl.1) rfl d_W_init_1 (Nat.le_of_ble_eq_true rfl) (Nat.le_of_ble_eq_true rfl) ?_
  refine W.eq (g2 := F0 m 4 ls []) rfl ?_
  refine lv_aload_n hx hb d_W_init_4 rfl (lv_at hl 0 rfl) ?_
  refine lv_iconst (v := 4) hx hb d_W_init_5 (by decide) ?_
  refine va_newa (atype := .int) (a0 := (4, .inl (fun _ => 0))) (N' := 4) (ty := .int) hx hb (htw _ mC_268) rfl hK hP hD hS hA (fun _ => rfl) (by decide) (by decide) (by decide) (Nat.le_of_ble_eq_true rfl) (Nat.le_of_ble_eq_true rfl) d_W_init_6 (fun q1 c1 H hK hP hD hS => ?_)
  refine W.cs (cells' := 1) (slots' := 4) rfl rfl ?_
  have hP : va_P D kcl [(h0, .inr (3, [.int 0, .null, .null, .null])), (q1, .inl (c1, 4, .inl (fun _ => 0)))] H := hP
  have hD : va_D (va_A [(h0, .inr (3, [.int 0, .null, .null, .null]))] sz) [(h0, .inr (3, [.int 0, .null, .null, .null])), (q1, .inl (c1, 4, .inl (fun _ => 0)))] := hD
  have hK : va_K D kcl [(c1, .int)] s := hK
  refine va_putF (D := D) (ci := 3) (v := .ref q1) (ty := .array .int) (C := R_W) (T := F_W) (N := 4) hx hb htw i_W t_W t_W_ok n_W hown hK hP hD hS 0 rfl rfl 1 (by decide) (htw _ mC_70) (fun _ h9 => h9) rfl hin rfl (by decide +kernel) rfl rfl (Nat.le_of_ble_eq_true rfl) d_W_init_8 (fun H locs hP hD hS => ?_)
  have hP : va_P D kcl [(h0, .inr (3, [.int 0, .ref q1, .null, .null])), (q1, .inl (c1, 4, .inl (fun _ => 0)))] H := hP
  have hD : va_D (va_A [(h0, .inr (3, [.int 0, .null, .null, .null]))] sz) [(h0, .inr (3, [.int 0, .ref q1, .null, .null])), (q1, .inl (c1, 4, .inl (fun _ => 0)))] := hD
  refine lv_aload_n hx hb d_W_init_11 rfl (lv_at hl 0 rfl) ?_
  refine lv_iconst (v := 4) hx hb d_W_init_12 (by decide) ?_
  refine va_newa (atype := .int) (a0 := (4, .inl (fun _ => 0))) (N' := 4) (ty := .int) hx hb (htw _ mC_268) rfl hK hP hD hS hA (fun _ => rfl) (by decide) (by decide) (by decide) (Nat.le_of_ble_eq_true rfl) (Nat.le_of_ble_eq_true rfl) d_W_init_13 (fun q2 c2 H hK hP hD hS => ?_)
  refine W.cs (cells' := 2) (slots' := 8) rfl rfl ?_
  have hP : va_P D kcl [(h0, .inr (3, [.int 0, .ref q1, .null, .null])), (q1, .inl (c1, 4, .inl (fun _ => 0))), (q2, .inl (c2, 4, .inl (fun _ => 0)))] H := hP
  have hD : va_D (va_A [(h0, .inr (3, [.int 0, .null, .null, .null]))] sz) [(h0, .inr (3, [.int 0, .ref q1, .null, .null])), (q1, .inl (c1, 4, .inl (fun _ => 0))), (q2, .inl (c2, 4, .inl (fun _ => 0)))] := hD
  have hK : va_K D kcl [(c1, .int), (c2, .int)] s := hK
  refine va_putF (D := D) (ci := 3) (v := .ref q2) (ty := .array .int) (C := R_W) (T := F_W) (N := 4) hx hb htw i_W t_W t_W_ok n_W hown hK hP hD hS 0 rfl rfl 2 (by decide) (htw _ mC_71) (fun _ h9 => h9) rfl hin rfl (by decide +kernel) rfl rfl (Nat.le_of_ble_eq_true rfl) d_W_init_15 (fun H locs hP hD hS => ?_)
  have hP : va_P D kcl [(h0, .inr (3, [.int 0, .ref q1, .ref q2, .null])), (q1, .inl (c1, 4, .inl (fun _ => 0))), (q2, .inl (c2, 4, .inl (fun _ => 0)))] H := hP
  have hD : va_D (va_A [(h0, .inr (3, [.int 0, .null, .null, .null]))] sz) [(h0, .inr (3, [.int 0, .ref q1, .ref q2, .null])), (q1, .inl (c1, 4, .inl (fun _ => 0))), (q2, .inl (c2, 4, .inl (fun _ => 0)))] := hD
  refine lv_aload_n hx hb d_W_init_18 rfl (lv_at hl 0 rfl) ?_
  refine lv_bipush (v := 10) hx hb d_W_init_19 (by decide) ?_
  refine va_newa (atype := .int) (a0 := (10, .inl (fun _ => 0))) (N' := 10) (ty := .int) hx hb (htw _ mC_268) rfl hK hP hD hS hA (fun _ => rfl) (by decide) (by decide) (by decide) (Nat.le_of_ble_eq_true rfl) (Nat.le_of_ble_eq_true rfl) d_W_init_21 (fun q3 c3 H hK hP hD hS => ?_)
  refine W.cs (cells' := 3) (slots' := 18) rfl rfl ?_
  have hP : va_P D kcl [(h0, .inr (3, [.int 0, .ref q1, .ref q2, .null])), (q1, .inl (c1, 4, .inl (fun _ => 0))), (q2, .inl (c2, 4, .inl (fun _ => 0))), (q3, .inl (c3, 10, .inl (fun _ => 0)))] H := hP
  have hD : va_D (va_A [(h0, .inr (3, [.int 0, .null, .null, .null]))] sz) [(h0, .inr (3, [.int 0, .ref q1, .ref q2, .null])), (q1, .inl (c1, 4, .inl (fun _ => 0))), (q2, .inl (c2, 4, .inl (fun _ => 0))), (q3, .inl (c3, 10, .inl (fun _ => 0)))] := hD
  have hK : va_K D kcl [(c1, .int), (c2, .int), (c3, .int)] s := hK
  refine va_putF (D := D) (ci := 3) (v := .ref q3) (ty := .array .int) (C := R_W) (T := F_W) (N := 4) hx hb htw i_W t_W t_W_ok n_W hown hK hP hD hS 0 rfl rfl 3 (by decide) (htw _ mC_72) (fun _ h9 => h9) rfl hin rfl (by decide +kernel) rfl rfl (Nat.le_of_ble_eq_true rfl) d_W_init_23 (fun H locs hP hD hS => ?_)
  have hP : va_P D kcl [(h0, .inr (3, [.int 0, .ref q1, .ref q2, .ref q3])), (q1, .inl (c1, 4, .inl (fun _ => 0))), (q2, .inl (c2, 4, .inl (fun _ => 0))), (q3, .inl (c3, 10, .inl (fun _ => 0)))] H := hP
  have hD : va_D (va_A [(h0, .inr (3, [.int 0, .null, .null, .null]))] sz) [(h0, .inr (3, [.int 0, .ref q1, .ref q2, .ref q3])), (q1, .inl (c1, 4, .inl (fun _ => 0))), (q2, .inl (c2, 4, .inl (fun _ => 0))), (q3, .inl (c3, 10, .inl (fun _ => 0)))] := hD
  refine lv_aload_n hx hb d_W_init_26 rfl (lv_at hl 0 rfl) ?_
  have hA0 : ∀ k : Nat, k = k := fun _ => rfl
  have hw : kb_K D kcl (tyW (fun k => [0, c1, c2, c3].getD k 0)) (wW (fun k => [h0, q1, q2, q3].getD k 0) (fun k => [0, c1, c2, c3].getD k 0) kz) s (va_A [(h0, .inr (3, [.int 0, .null, .null, .null]))] sz) H locs := ⟨hK, hP, hD, hS, hA⟩
  refine kb_callv0 (va_runV (As := []) (rest := []) ⟨hx, hb, hml, hown, htw⟩ (c2_W_clear l D (fun k => [h0, q1, q2, q3].getD k 0) (fun k => [0, c1, c2, c3].getD k 0) kz _ _ H.size hm) ⟨callB_of 0 htw (wsC_self mC_68) rfl rfl rfl (htw _ mC_3) (htw _ mC_66) q_W_clear ⟨by show 0 + 1 ≤ 2; omega, by show 8 + (2 + 11) + 0 ≤ 60; omega⟩, htw _ mC_67, htw _ mC_230⟩ (kb_preV nnC_warm nnC_same hw hN 0 (wW_0 _ _ _) rfl) rfl rfl hl.1 rfl (lv_room (Nat.le_of_ble_eq_true rfl)) d_W_init_27 ⟨Nat.le_of_ble_eq_true rfl, Nat.le_of_ble_eq_true rfl⟩) hw (fun H locs hw => ?_)
  exact W.vret hx hb hr (fun t ht hW => ⟨⟨(fun k => [h0, q1, q2, q3].getD k 0, fun k => [0, c1, c2, c3].getD k 0), rfl, rfl, by rw [ht]; exact hw.2.1, va_K.moved hW.alike hw.1, hw.2.2.1⟩, hw.2.2.2.1.F ht⟩) hw.2.2.2.1.2.2 d_W_init_30
set_option maxHeartbeats 4000000 in
set_option maxRecDepth 100000 in
theorem ni_Y (l : Launch) (D : va_G) (h0 sz : Nat) (MY : Nat → Nat → Int32) (hm : f2_Y_clear 2 4 kz = some (0, MY)) : Met l y_Y_init (Cond.code y_Y_init b_Y_init 1 none :: wsC) { frames := 2, cells := 7, slots := 74, locals := 60 } (va_Pc [.ref h0] (kb_pre D kcl [] [(h0, .inr (1, [.int 0, .int 0, .int 0, .null, .null, .null, .null, .null, .null, .null]))] nnC sz)) (va_Qv (fun u : (Nat → Nat) × (Nat → ClassId) => u.1 0 = h0) (fun u t => kb_post D kcl (tyY u.2) [(h0, .inr (1, [.int 0, .int 0, .int 0, .null, .null, .null, .null, .null, .null, .null]))] (wY u.1 u.2 MY) sz t) (va_A [(h0, .inr (1, [.int 0, .int 0, .int 0, .null, .null, .null, .null, .null, .null, .null]))] sz)) 7 74 (va_A [(h0, .inr (1, [.int 0, .int 0, .int 0, .null, .null, .null, .null, .null, .null, .null]))] sz) := by
  refine Met.ofW (cc := b_Y_init) (maxL := 1) (ret := none) (by decide) rfl ?_
  intro p e s m args below meth c s₁ B hml hv
  obtain ⟨rfl, hpre⟩ := hv
  obtain ⟨⟨hK, hP, hD, hS, hA⟩, hN⟩ := kb_enter hpre
  have hx := B.exec
  have hb := B.bytes
  have hr := B.returns
  have hts := atoms_spec (ws := (Cond.code y_Y_init b_Y_init 1 none :: wsC)) B.pre
  have htw : ∀ w ∈ wsC, w.before ([.ref h0] : List Value).toArray s = true := fun w h => hts w (List.mem_cons_of_mem _ h)
  have hown : s.vm.findClass "PileLifts$Yard" = some m.cls := findClass_of_methodNamed B.named
  have hlocks := B.notSynchronized
  have hin : meth.name = "<init>" := (name_of_methodNamed B.named B.method).1
  have hl := lv_entry ([.ref h0]) (n := 1) (Nat.le_of_ble_eq_true rfl)
  rw [lg_entry_eq]
  generalize (lg_sl ([.ref h0]) ++ List.replicate (1 - (lg_sl ([.ref h0])).length) Slot.unset).toArray = ls at hl ⊢
  have hl : lv_has ls 1 [(0, .ref h0)] := hl
  refine lv_aload_n hx hb d_Y_init_0 rfl (lv_at hl 0 rfl) ?_
  refine W.objInit hx hb hown (htw _ mC_12) (htw _ mC_266) (htw _ mC_267) rfl (by rw [hml]; exact hl.1) rfl d_Y_init_1 (Nat.le_of_ble_eq_true rfl) (Nat.le_of_ble_eq_true rfl) ?_
  refine W.eq (g2 := F0 m 4 ls []) rfl ?_
  refine lv_aload_n hx hb d_Y_init_4 rfl (lv_at hl 0 rfl) ?_
  refine lv_iconst (v := 4) hx hb d_Y_init_5 (by decide) ?_
  refine va_newa (atype := .int) (a0 := (4, .inl (fun _ => 0))) (N' := 4) (ty := .int) hx hb (htw _ mC_268) rfl hK hP hD hS hA (fun _ => rfl) (by decide) (by decide) (by decide) (Nat.le_of_ble_eq_true rfl) (Nat.le_of_ble_eq_true rfl) d_Y_init_6 (fun q1 c1 H hK hP hD hS => ?_)
  refine W.cs (cells' := 1) (slots' := 4) rfl rfl ?_
  have hP : va_P D kcl [(h0, .inr (1, [.int 0, .int 0, .int 0, .null, .null, .null, .null, .null, .null, .null])), (q1, .inl (c1, 4, .inl (fun _ => 0)))] H := hP
  have hD : va_D (va_A [(h0, .inr (1, [.int 0, .int 0, .int 0, .null, .null, .null, .null, .null, .null, .null]))] sz) [(h0, .inr (1, [.int 0, .int 0, .int 0, .null, .null, .null, .null, .null, .null, .null])), (q1, .inl (c1, 4, .inl (fun _ => 0)))] := hD
  have hK : va_K D kcl [(c1, .int)] s := hK
  refine va_putF (D := D) (ci := 1) (v := .ref q1) (ty := .array .int) (C := R_Y) (T := F_Y) (N := 10) hx hb htw i_Y t_Y t_Y_ok n_Y hown hK hP hD hS 0 rfl rfl 3 (by decide) (htw _ mC_19) (fun _ h9 => h9) rfl hin rfl (by decide +kernel) rfl rfl (Nat.le_of_ble_eq_true rfl) d_Y_init_8 (fun H locs hP hD hS => ?_)
  have hP : va_P D kcl [(h0, .inr (1, [.int 0, .int 0, .int 0, .ref q1, .null, .null, .null, .null, .null, .null])), (q1, .inl (c1, 4, .inl (fun _ => 0)))] H := hP
  have hD : va_D (va_A [(h0, .inr (1, [.int 0, .int 0, .int 0, .null, .null, .null, .null, .null, .null, .null]))] sz) [(h0, .inr (1, [.int 0, .int 0, .int 0, .ref q1, .null, .null, .null, .null, .null, .null])), (q1, .inl (c1, 4, .inl (fun _ => 0)))] := hD
  refine lv_aload_n hx hb d_Y_init_11 rfl (lv_at hl 0 rfl) ?_
  refine lv_bipush (v := 20) hx hb d_Y_init_12 (by decide) ?_
  refine va_newa (atype := .int) (a0 := (20, .inl (fun _ => 0))) (N' := 20) (ty := .int) hx hb (htw _ mC_268) rfl hK hP hD hS hA (fun _ => rfl) (by decide) (by decide) (by decide) (Nat.le_of_ble_eq_true rfl) (Nat.le_of_ble_eq_true rfl) d_Y_init_14 (fun q2 c2 H hK hP hD hS => ?_)
  refine W.cs (cells' := 2) (slots' := 24) rfl rfl ?_
  have hP : va_P D kcl [(h0, .inr (1, [.int 0, .int 0, .int 0, .ref q1, .null, .null, .null, .null, .null, .null])), (q1, .inl (c1, 4, .inl (fun _ => 0))), (q2, .inl (c2, 20, .inl (fun _ => 0)))] H := hP
  have hD : va_D (va_A [(h0, .inr (1, [.int 0, .int 0, .int 0, .null, .null, .null, .null, .null, .null, .null]))] sz) [(h0, .inr (1, [.int 0, .int 0, .int 0, .ref q1, .null, .null, .null, .null, .null, .null])), (q1, .inl (c1, 4, .inl (fun _ => 0))), (q2, .inl (c2, 20, .inl (fun _ => 0)))] := hD
  have hK : va_K D kcl [(c1, .int), (c2, .int)] s := hK
  refine va_putF (D := D) (ci := 1) (v := .ref q2) (ty := .array .int) (C := R_Y) (T := F_Y) (N := 10) hx hb htw i_Y t_Y t_Y_ok n_Y hown hK hP hD hS 0 rfl rfl 4 (by decide) (htw _ mC_20) (fun _ h9 => h9) rfl hin rfl (by decide +kernel) rfl rfl (Nat.le_of_ble_eq_true rfl) d_Y_init_16 (fun H locs hP hD hS => ?_)
  have hP : va_P D kcl [(h0, .inr (1, [.int 0, .int 0, .int 0, .ref q1, .ref q2, .null, .null, .null, .null, .null])), (q1, .inl (c1, 4, .inl (fun _ => 0))), (q2, .inl (c2, 20, .inl (fun _ => 0)))] H := hP
  have hD : va_D (va_A [(h0, .inr (1, [.int 0, .int 0, .int 0, .null, .null, .null, .null, .null, .null, .null]))] sz) [(h0, .inr (1, [.int 0, .int 0, .int 0, .ref q1, .ref q2, .null, .null, .null, .null, .null])), (q1, .inl (c1, 4, .inl (fun _ => 0))), (q2, .inl (c2, 20, .inl (fun _ => 0)))] := hD
  refine lv_aload_n hx hb d_Y_init_19 rfl (lv_at hl 0 rfl) ?_
  refine lv_bipush (v := 10) hx hb d_Y_init_20 (by decide) ?_
  refine va_newa (atype := .int) (a0 := (10, .inl (fun _ => 0))) (N' := 10) (ty := .int) hx hb (htw _ mC_268) rfl hK hP hD hS hA (fun _ => rfl) (by decide) (by decide) (by decide) (Nat.le_of_ble_eq_true rfl) (Nat.le_of_ble_eq_true rfl) d_Y_init_22 (fun q3 c3 H hK hP hD hS => ?_)
  refine W.cs (cells' := 3) (slots' := 34) rfl rfl ?_
  have hP : va_P D kcl [(h0, .inr (1, [.int 0, .int 0, .int 0, .ref q1, .ref q2, .null, .null, .null, .null, .null])), (q1, .inl (c1, 4, .inl (fun _ => 0))), (q2, .inl (c2, 20, .inl (fun _ => 0))), (q3, .inl (c3, 10, .inl (fun _ => 0)))] H := hP
  have hD : va_D (va_A [(h0, .inr (1, [.int 0, .int 0, .int 0, .null, .null, .null, .null, .null, .null, .null]))] sz) [(h0, .inr (1, [.int 0, .int 0, .int 0, .ref q1, .ref q2, .null, .null, .null, .null, .null])), (q1, .inl (c1, 4, .inl (fun _ => 0))), (q2, .inl (c2, 20, .inl (fun _ => 0))), (q3, .inl (c3, 10, .inl (fun _ => 0)))] := hD
  have hK : va_K D kcl [(c1, .int), (c2, .int), (c3, .int)] s := hK
  refine va_putF (D := D) (ci := 1) (v := .ref q3) (ty := .array .int) (C := R_Y) (T := F_Y) (N := 10) hx hb htw i_Y t_Y t_Y_ok n_Y hown hK hP hD hS 0 rfl rfl 5 (by decide) (htw _ mC_21) (fun _ h9 => h9) rfl hin rfl (by decide +kernel) rfl rfl (Nat.le_of_ble_eq_true rfl) d_Y_init_24 (fun H locs hP hD hS => ?_)
  have hP : va_P D kcl [(h0, .inr (1, [.int 0, .int 0, .int 0, .ref q1, .ref q2, .ref q3, .null, .null, .null, .null])), (q1, .inl (c1, 4, .inl (fun _ => 0))), (q2, .inl (c2, 20, .inl (fun _ => 0))), (q3, .inl (c3, 10, .inl (fun _ => 0)))] H := hP
  have hD : va_D (va_A [(h0, .inr (1, [.int 0, .int 0, .int 0, .null, .null, .null, .null, .null, .null, .null]))] sz) [(h0, .inr (1, [.int 0, .int 0, .int 0, .ref q1, .ref q2, .ref q3, .null, .null, .null, .null])), (q1, .inl (c1, 4, .inl (fun _ => 0))), (q2, .inl (c2, 20, .inl (fun _ => 0))), (q3, .inl (c3, 10, .inl (fun _ => 0)))] := hD
  refine lv_aload_n hx hb d_Y_init_27 rfl (lv_at hl 0 rfl) ?_
  refine lv_bipush (v := 10) hx hb d_Y_init_28 (by decide) ?_
  refine va_newa (atype := .int) (a0 := (10, .inl (fun _ => 0))) (N' := 10) (ty := .int) hx hb (htw _ mC_268) rfl hK hP hD hS hA (fun _ => rfl) (by decide) (by decide) (by decide) (Nat.le_of_ble_eq_true rfl) (Nat.le_of_ble_eq_true rfl) d_Y_init_30 (fun q4 c4 H hK hP hD hS => ?_)
  refine W.cs (cells' := 4) (slots' := 44) rfl rfl ?_
  have hP : va_P D kcl [(h0, .inr (1, [.int 0, .int 0, .int 0, .ref q1, .ref q2, .ref q3, .null, .null, .null, .null])), (q1, .inl (c1, 4, .inl (fun _ => 0))), (q2, .inl (c2, 20, .inl (fun _ => 0))), (q3, .inl (c3, 10, .inl (fun _ => 0))), (q4, .inl (c4, 10, .inl (fun _ => 0)))] H := hP
  have hD : va_D (va_A [(h0, .inr (1, [.int 0, .int 0, .int 0, .null, .null, .null, .null, .null, .null, .null]))] sz) [(h0, .inr (1, [.int 0, .int 0, .int 0, .ref q1, .ref q2, .ref q3, .null, .null, .null, .null])), (q1, .inl (c1, 4, .inl (fun _ => 0))), (q2, .inl (c2, 20, .inl (fun _ => 0))), (q3, .inl (c3, 10, .inl (fun _ => 0))), (q4, .inl (c4, 10, .inl (fun _ => 0)))] := hD
  have hK : va_K D kcl [(c1, .int), (c2, .int), (c3, .int), (c4, .int)] s := hK
  refine va_putF (D := D) (ci := 1) (v := .ref q4) (ty := .array .int) (C := R_Y) (T := F_Y) (N := 10) hx hb htw i_Y t_Y t_Y_ok n_Y hown hK hP hD hS 0 rfl rfl 6 (by decide) (htw _ mC_22) (fun _ h9 => h9) rfl hin rfl (by decide +kernel) rfl rfl (Nat.le_of_ble_eq_true rfl) d_Y_init_32 (fun H locs hP hD hS => ?_)
  have hP : va_P D kcl [(h0, .inr (1, [.int 0, .int 0, .int 0, .ref q1, .ref q2, .ref q3, .ref q4, .null, .null, .null])), (q1, .inl (c1, 4, .inl (fun _ => 0))), (q2, .inl (c2, 20, .inl (fun _ => 0))), (q3, .inl (c3, 10, .inl (fun _ => 0))), (q4, .inl (c4, 10, .inl (fun _ => 0)))] H := hP
  have hD : va_D (va_A [(h0, .inr (1, [.int 0, .int 0, .int 0, .null, .null, .null, .null, .null, .null, .null]))] sz) [(h0, .inr (1, [.int 0, .int 0, .int 0, .ref q1, .ref q2, .ref q3, .ref q4, .null, .null, .null])), (q1, .inl (c1, 4, .inl (fun _ => 0))), (q2, .inl (c2, 20, .inl (fun _ => 0))), (q3, .inl (c3, 10, .inl (fun _ => 0))), (q4, .inl (c4, 10, .inl (fun _ => 0)))] := hD
  refine lv_aload_n hx hb d_Y_init_35 rfl (lv_at hl 0 rfl) ?_
  refine lv_bipush (v := 10) hx hb d_Y_init_36 (by decide) ?_
  refine va_newa (atype := .int) (a0 := (10, .inl (fun _ => 0))) (N' := 10) (ty := .int) hx hb (htw _ mC_268) rfl hK hP hD hS hA (fun _ => rfl) (by decide) (by decide) (by decide) (Nat.le_of_ble_eq_true rfl) (Nat.le_of_ble_eq_true rfl) d_Y_init_38 (fun q5 c5 H hK hP hD hS => ?_)
  refine W.cs (cells' := 5) (slots' := 54) rfl rfl ?_
  have hP : va_P D kcl [(h0, .inr (1, [.int 0, .int 0, .int 0, .ref q1, .ref q2, .ref q3, .ref q4, .null, .null, .null])), (q1, .inl (c1, 4, .inl (fun _ => 0))), (q2, .inl (c2, 20, .inl (fun _ => 0))), (q3, .inl (c3, 10, .inl (fun _ => 0))), (q4, .inl (c4, 10, .inl (fun _ => 0))), (q5, .inl (c5, 10, .inl (fun _ => 0)))] H := hP
  have hD : va_D (va_A [(h0, .inr (1, [.int 0, .int 0, .int 0, .null, .null, .null, .null, .null, .null, .null]))] sz) [(h0, .inr (1, [.int 0, .int 0, .int 0, .ref q1, .ref q2, .ref q3, .ref q4, .null, .null, .null])), (q1, .inl (c1, 4, .inl (fun _ => 0))), (q2, .inl (c2, 20, .inl (fun _ => 0))), (q3, .inl (c3, 10, .inl (fun _ => 0))), (q4, .inl (c4, 10, .inl (fun _ => 0))), (q5, .inl (c5, 10, .inl (fun _ => 0)))] := hD
  have hK : va_K D kcl [(c1, .int), (c2, .int), (c3, .int), (c4, .int), (c5, .int)] s := hK
  refine va_putF (D := D) (ci := 1) (v := .ref q5) (ty := .array .int) (C := R_Y) (T := F_Y) (N := 10) hx hb htw i_Y t_Y t_Y_ok n_Y hown hK hP hD hS 0 rfl rfl 7 (by decide) (htw _ mC_23) (fun _ h9 => h9) rfl hin rfl (by decide +kernel) rfl rfl (Nat.le_of_ble_eq_true rfl) d_Y_init_40 (fun H locs hP hD hS => ?_)
  have hP : va_P D kcl [(h0, .inr (1, [.int 0, .int 0, .int 0, .ref q1, .ref q2, .ref q3, .ref q4, .ref q5, .null, .null])), (q1, .inl (c1, 4, .inl (fun _ => 0))), (q2, .inl (c2, 20, .inl (fun _ => 0))), (q3, .inl (c3, 10, .inl (fun _ => 0))), (q4, .inl (c4, 10, .inl (fun _ => 0))), (q5, .inl (c5, 10, .inl (fun _ => 0)))] H := hP
  have hD : va_D (va_A [(h0, .inr (1, [.int 0, .int 0, .int 0, .null, .null, .null, .null, .null, .null, .null]))] sz) [(h0, .inr (1, [.int 0, .int 0, .int 0, .ref q1, .ref q2, .ref q3, .ref q4, .ref q5, .null, .null])), (q1, .inl (c1, 4, .inl (fun _ => 0))), (q2, .inl (c2, 20, .inl (fun _ => 0))), (q3, .inl (c3, 10, .inl (fun _ => 0))), (q4, .inl (c4, 10, .inl (fun _ => 0))), (q5, .inl (c5, 10, .inl (fun _ => 0)))] := hD
  refine lv_aload_n hx hb d_Y_init_43 rfl (lv_at hl 0 rfl) ?_
  refine lv_bipush (v := 10) hx hb d_Y_init_44 (by decide) ?_
  refine va_newa (atype := .int) (a0 := (10, .inl (fun _ => 0))) (N' := 10) (ty := .int) hx hb (htw _ mC_268) rfl hK hP hD hS hA (fun _ => rfl) (by decide) (by decide) (by decide) (Nat.le_of_ble_eq_true rfl) (Nat.le_of_ble_eq_true rfl) d_Y_init_46 (fun q6 c6 H hK hP hD hS => ?_)
  refine W.cs (cells' := 6) (slots' := 64) rfl rfl ?_
  have hP : va_P D kcl [(h0, .inr (1, [.int 0, .int 0, .int 0, .ref q1, .ref q2, .ref q3, .ref q4, .ref q5, .null, .null])), (q1, .inl (c1, 4, .inl (fun _ => 0))), (q2, .inl (c2, 20, .inl (fun _ => 0))), (q3, .inl (c3, 10, .inl (fun _ => 0))), (q4, .inl (c4, 10, .inl (fun _ => 0))), (q5, .inl (c5, 10, .inl (fun _ => 0))), (q6, .inl (c6, 10, .inl (fun _ => 0)))] H := hP
  have hD : va_D (va_A [(h0, .inr (1, [.int 0, .int 0, .int 0, .null, .null, .null, .null, .null, .null, .null]))] sz) [(h0, .inr (1, [.int 0, .int 0, .int 0, .ref q1, .ref q2, .ref q3, .ref q4, .ref q5, .null, .null])), (q1, .inl (c1, 4, .inl (fun _ => 0))), (q2, .inl (c2, 20, .inl (fun _ => 0))), (q3, .inl (c3, 10, .inl (fun _ => 0))), (q4, .inl (c4, 10, .inl (fun _ => 0))), (q5, .inl (c5, 10, .inl (fun _ => 0))), (q6, .inl (c6, 10, .inl (fun _ => 0)))] := hD
  have hK : va_K D kcl [(c1, .int), (c2, .int), (c3, .int), (c4, .int), (c5, .int), (c6, .int)] s := hK
  refine va_putF (D := D) (ci := 1) (v := .ref q6) (ty := .array .int) (C := R_Y) (T := F_Y) (N := 10) hx hb htw i_Y t_Y t_Y_ok n_Y hown hK hP hD hS 0 rfl rfl 8 (by decide) (htw _ mC_24) (fun _ h9 => h9) rfl hin rfl (by decide +kernel) rfl rfl (Nat.le_of_ble_eq_true rfl) d_Y_init_48 (fun H locs hP hD hS => ?_)
  have hP : va_P D kcl [(h0, .inr (1, [.int 0, .int 0, .int 0, .ref q1, .ref q2, .ref q3, .ref q4, .ref q5, .ref q6, .null])), (q1, .inl (c1, 4, .inl (fun _ => 0))), (q2, .inl (c2, 20, .inl (fun _ => 0))), (q3, .inl (c3, 10, .inl (fun _ => 0))), (q4, .inl (c4, 10, .inl (fun _ => 0))), (q5, .inl (c5, 10, .inl (fun _ => 0))), (q6, .inl (c6, 10, .inl (fun _ => 0)))] H := hP
  have hD : va_D (va_A [(h0, .inr (1, [.int 0, .int 0, .int 0, .null, .null, .null, .null, .null, .null, .null]))] sz) [(h0, .inr (1, [.int 0, .int 0, .int 0, .ref q1, .ref q2, .ref q3, .ref q4, .ref q5, .ref q6, .null])), (q1, .inl (c1, 4, .inl (fun _ => 0))), (q2, .inl (c2, 20, .inl (fun _ => 0))), (q3, .inl (c3, 10, .inl (fun _ => 0))), (q4, .inl (c4, 10, .inl (fun _ => 0))), (q5, .inl (c5, 10, .inl (fun _ => 0))), (q6, .inl (c6, 10, .inl (fun _ => 0)))] := hD
  refine lv_aload_n hx hb d_Y_init_51 rfl (lv_at hl 0 rfl) ?_
  refine lv_bipush (v := 10) hx hb d_Y_init_52 (by decide) ?_
  refine va_newa (atype := .int) (a0 := (10, .inl (fun _ => 0))) (N' := 10) (ty := .int) hx hb (htw _ mC_268) rfl hK hP hD hS hA (fun _ => rfl) (by decide) (by decide) (by decide) (Nat.le_of_ble_eq_true rfl) (Nat.le_of_ble_eq_true rfl) d_Y_init_54 (fun q7 c7 H hK hP hD hS => ?_)
  refine W.cs (cells' := 7) (slots' := 74) rfl rfl ?_
  have hP : va_P D kcl [(h0, .inr (1, [.int 0, .int 0, .int 0, .ref q1, .ref q2, .ref q3, .ref q4, .ref q5, .ref q6, .null])), (q1, .inl (c1, 4, .inl (fun _ => 0))), (q2, .inl (c2, 20, .inl (fun _ => 0))), (q3, .inl (c3, 10, .inl (fun _ => 0))), (q4, .inl (c4, 10, .inl (fun _ => 0))), (q5, .inl (c5, 10, .inl (fun _ => 0))), (q6, .inl (c6, 10, .inl (fun _ => 0))), (q7, .inl (c7, 10, .inl (fun _ => 0)))] H := hP
  have hD : va_D (va_A [(h0, .inr (1, [.int 0, .int 0, .int 0, .null, .null, .null, .null, .null, .null, .null]))] sz) [(h0, .inr (1, [.int 0, .int 0, .int 0, .ref q1, .ref q2, .ref q3, .ref q4, .ref q5, .ref q6, .null])), (q1, .inl (c1, 4, .inl (fun _ => 0))), (q2, .inl (c2, 20, .inl (fun _ => 0))), (q3, .inl (c3, 10, .inl (fun _ => 0))), (q4, .inl (c4, 10, .inl (fun _ => 0))), (q5, .inl (c5, 10, .inl (fun _ => 0))), (q6, .inl (c6, 10, .inl (fun _ => 0))), (q7, .inl (c7, 10, .inl (fun _ => 0)))] := hD
  have hK : va_K D kcl [(c1, .int), (c2, .int), (c3, .int), (c4, .int), (c5, .int), (c6, .int), (c7, .int)] s := hK
  refine va_putF (D := D) (ci := 1) (v := .ref q7) (ty := .array .int) (C := R_Y) (T := F_Y) (N := 10) hx hb htw i_Y t_Y t_Y_ok n_Y hown hK hP hD hS 0 rfl rfl 9 (by decide) (htw _ mC_25) (fun _ h9 => h9) rfl hin rfl (by decide +kernel) rfl rfl (Nat.le_of_ble_eq_true rfl) d_Y_init_56 (fun H locs hP hD hS => ?_)
  have hP : va_P D kcl [(h0, .inr (1, [.int 0, .int 0, .int 0, .ref q1, .ref q2, .ref q3, .ref q4, .ref q5, .ref q6, .ref q7])), (q1, .inl (c1, 4, .inl (fun _ => 0))), (q2, .inl (c2, 20, .inl (fun _ => 0))), (q3, .inl (c3, 10, .inl (fun _ => 0))), (q4, .inl (c4, 10, .inl (fun _ => 0))), (q5, .inl (c5, 10, .inl (fun _ => 0))), (q6, .inl (c6, 10, .inl (fun _ => 0))), (q7, .inl (c7, 10, .inl (fun _ => 0)))] H := hP
  have hD : va_D (va_A [(h0, .inr (1, [.int 0, .int 0, .int 0, .null, .null, .null, .null, .null, .null, .null]))] sz) [(h0, .inr (1, [.int 0, .int 0, .int 0, .ref q1, .ref q2, .ref q3, .ref q4, .ref q5, .ref q6, .ref q7])), (q1, .inl (c1, 4, .inl (fun _ => 0))), (q2, .inl (c2, 20, .inl (fun _ => 0))), (q3, .inl (c3, 10, .inl (fun _ => 0))), (q4, .inl (c4, 10, .inl (fun _ => 0))), (q5, .inl (c5, 10, .inl (fun _ => 0))), (q6, .inl (c6, 10, .inl (fun _ => 0))), (q7, .inl (c7, 10, .inl (fun _ => 0)))] := hD
  refine lv_aload_n hx hb d_Y_init_59 rfl (lv_at hl 0 rfl) ?_
  refine lv_iconst (v := 2) hx hb d_Y_init_60 (by decide) ?_
  refine lv_iconst (v := 4) hx hb d_Y_init_61 (by decide) ?_
  have hA0 : ∀ k : Nat, k = k := fun _ => rfl
  have hw : kb_K D kcl (tyY (fun k => [0, c1, c2, c3, c4, c5, c6, c7].getD k 0)) (wY (fun k => [h0, q1, q2, q3, q4, q5, q6, q7].getD k 0) (fun k => [0, c1, c2, c3, c4, c5, c6, c7].getD k 0) kz) s (va_A [(h0, .inr (1, [.int 0, .int 0, .int 0, .null, .null, .null, .null, .null, .null, .null]))] sz) H locs := ⟨hK, hP, hD, hS, hA⟩
  refine kb_callv0 (va_runV (As := [.int 2, .int 4]) (rest := []) ⟨hx, hb, hml, hown, htw⟩ (c2_Y_clear l D (fun k => [h0, q1, q2, q3, q4, q5, q6, q7].getD k 0) (fun k => [0, c1, c2, c3, c4, c5, c6, c7].getD k 0) 2 4 kz _ _ H.size hm) ⟨callB_of 2 htw (wsC_self mC_15) rfl rfl rfl (htw _ mC_1) (htw _ mC_13) q_Y_clear ⟨by show 0 + 1 ≤ 2; omega, by show 8 + (4 + 11) + 0 ≤ 60; omega⟩, htw _ mC_14, htw _ mC_229⟩ (kb_preV nnC_warm nnC_same hw hN 0 (wY_0 _ _ _) rfl) rfl rfl hl.1 rfl (lv_room (Nat.le_of_ble_eq_true rfl)) d_Y_init_62 ⟨Nat.le_of_ble_eq_true rfl, Nat.le_of_ble_eq_true rfl⟩) hw (fun H locs hw => ?_)
  exact W.vret hx hb hr (fun t ht hW => ⟨⟨(fun k => [h0, q1, q2, q3, q4, q5, q6, q7].getD k 0, fun k => [0, c1, c2, c3, c4, c5, c6, c7].getD k 0), rfl, rfl, by rw [ht]; exact hw.2.1, va_K.moved hW.alike hw.1, hw.2.2.1⟩, hw.2.2.2.1.F ht⟩) hw.2.2.2.1.2.2 d_Y_init_65
def kzM : Nat → Nat → Int32 := kb_up (kb_up kz 0 (upd (kz 0) 1 2)) 0 (upd (kb_up kz 0 (upd (kz 0) 1 2) 0) 2 4)
set_option maxHeartbeats 4000000 in
set_option maxRecDepth 100000 in
theorem ni_M (l : Launch) (D : va_G) (h0 sz : Nat) : Met l y_M_init (Cond.code y_M_init b_M_init 1 none :: wsM) { frames := 2, cells := 13, slots := 533, locals := 60 } (va_Pc [.ref h0] (kb_pre D kcl [] [(h0, .inr (4, [.int 0, .int 0, .int 0, .int 0, .null, .null, .null, .null, .null, .null, .null, .null, .null, .null, .null, .int 0, .int 0, .int 0, .int 0, .int 0, .null, .null]))] nnM sz)) (va_Qv (fun u : (Nat → Nat) × (Nat → ClassId) => u.1 0 = h0) (fun u t => kb_post D kcl (tyM u.2) [(h0, .inr (4, [.int 0, .int 0, .int 0, .int 0, .null, .null, .null, .null, .null, .null, .null, .null, .null, .null, .null, .int 0, .int 0, .int 0, .int 0, .int 0, .null, .null]))] (wM u.1 u.2 kzM) sz t) (va_A [(h0, .inr (4, [.int 0, .int 0, .int 0, .int 0, .null, .null, .null, .null, .null, .null, .null, .null, .null, .null, .null, .int 0, .int 0, .int 0, .int 0, .int 0, .null, .null]))] sz)) 13 533 (va_A [(h0, .inr (4, [.int 0, .int 0, .int 0, .int 0, .null, .null, .null, .null, .null, .null, .null, .null, .null, .null, .null, .int 0, .int 0, .int 0, .int 0, .int 0, .null, .null]))] sz) := by
  refine Met.ofW (cc := b_M_init) (maxL := 1) (ret := none) (by decide) rfl ?_
  intro p e s m args below meth c s₁ B hml hv
  obtain ⟨rfl, hpre⟩ := hv
  obtain ⟨⟨hK, hP, hD, hS, hA⟩, hN⟩ := kb_enter hpre
  have hx := B.exec
  have hb := B.bytes
  have hr := B.returns
  have hts := atoms_spec (ws := (Cond.code y_M_init b_M_init 1 none :: wsM)) B.pre
  have htw : ∀ w ∈ wsM, w.before ([.ref h0] : List Value).toArray s = true := fun w h => hts w (List.mem_cons_of_mem _ h)
  have hown : s.vm.findClass "PileLiftsModel" = some m.cls := findClass_of_methodNamed B.named
  have hlocks := B.notSynchronized
  have hin : meth.name = "<init>" := (name_of_methodNamed B.named B.method).1
  have hl := lv_entry ([.ref h0]) (n := 1) (Nat.le_of_ble_eq_true rfl)
  rw [lg_entry_eq]
  generalize (lg_sl ([.ref h0]) ++ List.replicate (1 - (lg_sl ([.ref h0])).length) Slot.unset).toArray = ls at hl ⊢
  have hl : lv_has ls 1 [(0, .ref h0)] := hl
  refine lv_aload_n hx hb d_M_init_0 rfl (lv_at hl 0 rfl) ?_
  refine W.objInit hx hb hown (htw _ mM_4) (htw _ mM_165) (htw _ mM_166) rfl (by rw [hml]; exact hl.1) rfl d_M_init_1 (Nat.le_of_ble_eq_true rfl) (Nat.le_of_ble_eq_true rfl) ?_
  refine W.eq (g2 := F0 m 4 ls []) rfl ?_
  refine lv_aload_n hx hb d_M_init_4 rfl (lv_at hl 0 rfl) ?_
  refine lv_iconst (v := 2) hx hb d_M_init_5 (by decide) ?_
  refine va_put (D := D) (ci := 4) (v := .int 2) (ty := .int) (C := R_M) (T := F_M) (N := 22) hx hb htw i_M t_M t_M_ok n_M hown hK hP hD hS 0 rfl rfl 1 (by decide) (htw _ mM_6) (fun _ h9 => h9) rfl (by decide +kernel) rfl rfl (Nat.le_of_ble_eq_true rfl) d_M_init_6 (fun H locs hP hD hS => ?_)
  have hP : va_P D kcl [(h0, .inr (4, [.int 0, .int 2, .int 0, .int 0, .null, .null, .null, .null, .null, .null, .null, .null, .null, .null, .null, .int 0, .int 0, .int 0, .int 0, .int 0, .null, .null]))] H := hP
  have hD : va_D (va_A [(h0, .inr (4, [.int 0, .int 0, .int 0, .int 0, .null, .null, .null, .null, .null, .null, .null, .null, .null, .null, .null, .int 0, .int 0, .int 0, .int 0, .int 0, .null, .null]))] sz) [(h0, .inr (4, [.int 0, .int 2, .int 0, .int 0, .null, .null, .null, .null, .null, .null, .null, .null, .null, .null, .null, .int 0, .int 0, .int 0, .int 0, .int 0, .null, .null]))] := hD
  refine lv_aload_n hx hb d_M_init_9 rfl (lv_at hl 0 rfl) ?_
  refine lv_iconst (v := 4) hx hb d_M_init_10 (by decide) ?_
  refine va_put (D := D) (ci := 4) (v := .int 4) (ty := .int) (C := R_M) (T := F_M) (N := 22) hx hb htw i_M t_M t_M_ok n_M hown hK hP hD hS 0 rfl rfl 2 (by decide) (htw _ mM_7) (fun _ h9 => h9) rfl (by decide +kernel) rfl rfl (Nat.le_of_ble_eq_true rfl) d_M_init_11 (fun H locs hP hD hS => ?_)
  have hP : va_P D kcl [(h0, .inr (4, [.int 0, .int 2, .int 4, .int 0, .null, .null, .null, .null, .null, .null, .null, .null, .null, .null, .null, .int 0, .int 0, .int 0, .int 0, .int 0, .null, .null]))] H := hP
  have hD : va_D (va_A [(h0, .inr (4, [.int 0, .int 0, .int 0, .int 0, .null, .null, .null, .null, .null, .null, .null, .null, .null, .null, .null, .int 0, .int 0, .int 0, .int 0, .int 0, .null, .null]))] sz) [(h0, .inr (4, [.int 0, .int 2, .int 4, .int 0, .null, .null, .null, .null, .null, .null, .null, .null, .null, .null, .null, .int 0, .int 0, .int 0, .int 0, .int 0, .null, .null]))] := hD
  refine lv_aload_n hx hb d_M_init_14 rfl (lv_at hl 0 rfl) ?_
  refine lv_bipush (v := 10) hx hb d_M_init_15 (by decide) ?_
  refine va_newa (atype := .int) (a0 := (10, .inl (fun _ => 0))) (N' := 10) (ty := .int) hx hb (htw _ mM_167) rfl hK hP hD hS hA (fun _ => rfl) (by decide) (by decide) (by decide) (Nat.le_of_ble_eq_true rfl) (Nat.le_of_ble_eq_true rfl) d_M_init_17 (fun q1 c1 H hK hP hD hS => ?_)
  refine W.cs (cells' := 1) (slots' := 10) rfl rfl ?_
  have hP : va_P D kcl [(h0, .inr (4, [.int 0, .int 2, .int 4, .int 0, .null, .null, .null, .null, .null, .null, .null, .null, .null, .null, .null, .int 0, .int 0, .int 0, .int 0, .int 0, .null, .null])), (q1, .inl (c1, 10, .inl (fun _ => 0)))] H := hP
  have hD : va_D (va_A [(h0, .inr (4, [.int 0, .int 0, .int 0, .int 0, .null, .null, .null, .null, .null, .null, .null, .null, .null, .null, .null, .int 0, .int 0, .int 0, .int 0, .int 0, .null, .null]))] sz) [(h0, .inr (4, [.int 0, .int 2, .int 4, .int 0, .null, .null, .null, .null, .null, .null, .null, .null, .null, .null, .null, .int 0, .int 0, .int 0, .int 0, .int 0, .null, .null])), (q1, .inl (c1, 10, .inl (fun _ => 0)))] := hD
  have hK : va_K D kcl [(c1, .int)] s := hK
  refine va_putF (D := D) (ci := 4) (v := .ref q1) (ty := .array .int) (C := R_M) (T := F_M) (N := 22) hx hb htw i_M t_M t_M_ok n_M hown hK hP hD hS 0 rfl rfl 4 (by decide) (htw _ mM_9) (fun _ h9 => h9) rfl hin rfl (by decide +kernel) rfl rfl (Nat.le_of_ble_eq_true rfl) d_M_init_19 (fun H locs hP hD hS => ?_)
  have hP : va_P D kcl [(h0, .inr (4, [.int 0, .int 2, .int 4, .int 0, .ref q1, .null, .null, .null, .null, .null, .null, .null, .null, .null, .null, .int 0, .int 0, .int 0, .int 0, .int 0, .null, .null])), (q1, .inl (c1, 10, .inl (fun _ => 0)))] H := hP
  have hD : va_D (va_A [(h0, .inr (4, [.int 0, .int 0, .int 0, .int 0, .null, .null, .null, .null, .null, .null, .null, .null, .null, .null, .null, .int 0, .int 0, .int 0, .int 0, .int 0, .null, .null]))] sz) [(h0, .inr (4, [.int 0, .int 2, .int 4, .int 0, .ref q1, .null, .null, .null, .null, .null, .null, .null, .null, .null, .null, .int 0, .int 0, .int 0, .int 0, .int 0, .null, .null])), (q1, .inl (c1, 10, .inl (fun _ => 0)))] := hD
  refine lv_aload_n hx hb d_M_init_22 rfl (lv_at hl 0 rfl) ?_
  refine lv_bipush (v := 10) hx hb d_M_init_23 (by decide) ?_
  refine va_newa (atype := .int) (a0 := (10, .inl (fun _ => 0))) (N' := 10) (ty := .int) hx hb (htw _ mM_167) rfl hK hP hD hS hA (fun _ => rfl) (by decide) (by decide) (by decide) (Nat.le_of_ble_eq_true rfl) (Nat.le_of_ble_eq_true rfl) d_M_init_25 (fun q2 c2 H hK hP hD hS => ?_)
  refine W.cs (cells' := 2) (slots' := 20) rfl rfl ?_
  have hP : va_P D kcl [(h0, .inr (4, [.int 0, .int 2, .int 4, .int 0, .ref q1, .null, .null, .null, .null, .null, .null, .null, .null, .null, .null, .int 0, .int 0, .int 0, .int 0, .int 0, .null, .null])), (q1, .inl (c1, 10, .inl (fun _ => 0))), (q2, .inl (c2, 10, .inl (fun _ => 0)))] H := hP
  have hD : va_D (va_A [(h0, .inr (4, [.int 0, .int 0, .int 0, .int 0, .null, .null, .null, .null, .null, .null, .null, .null, .null, .null, .null, .int 0, .int 0, .int 0, .int 0, .int 0, .null, .null]))] sz) [(h0, .inr (4, [.int 0, .int 2, .int 4, .int 0, .ref q1, .null, .null, .null, .null, .null, .null, .null, .null, .null, .null, .int 0, .int 0, .int 0, .int 0, .int 0, .null, .null])), (q1, .inl (c1, 10, .inl (fun _ => 0))), (q2, .inl (c2, 10, .inl (fun _ => 0)))] := hD
  have hK : va_K D kcl [(c1, .int), (c2, .int)] s := hK
  refine va_putF (D := D) (ci := 4) (v := .ref q2) (ty := .array .int) (C := R_M) (T := F_M) (N := 22) hx hb htw i_M t_M t_M_ok n_M hown hK hP hD hS 0 rfl rfl 5 (by decide) (htw _ mM_10) (fun _ h9 => h9) rfl hin rfl (by decide +kernel) rfl rfl (Nat.le_of_ble_eq_true rfl) d_M_init_27 (fun H locs hP hD hS => ?_)
  have hP : va_P D kcl [(h0, .inr (4, [.int 0, .int 2, .int 4, .int 0, .ref q1, .ref q2, .null, .null, .null, .null, .null, .null, .null, .null, .null, .int 0, .int 0, .int 0, .int 0, .int 0, .null, .null])), (q1, .inl (c1, 10, .inl (fun _ => 0))), (q2, .inl (c2, 10, .inl (fun _ => 0)))] H := hP
  have hD : va_D (va_A [(h0, .inr (4, [.int 0, .int 0, .int 0, .int 0, .null, .null, .null, .null, .null, .null, .null, .null, .null, .null, .null, .int 0, .int 0, .int 0, .int 0, .int 0, .null, .null]))] sz) [(h0, .inr (4, [.int 0, .int 2, .int 4, .int 0, .ref q1, .ref q2, .null, .null, .null, .null, .null, .null, .null, .null, .null, .int 0, .int 0, .int 0, .int 0, .int 0, .null, .null])), (q1, .inl (c1, 10, .inl (fun _ => 0))), (q2, .inl (c2, 10, .inl (fun _ => 0)))] := hD
  refine lv_aload_n hx hb d_M_init_30 rfl (lv_at hl 0 rfl) ?_
  refine lv_bipush (v := 10) hx hb d_M_init_31 (by decide) ?_
  refine va_newa (atype := .int) (a0 := (10, .inl (fun _ => 0))) (N' := 10) (ty := .int) hx hb (htw _ mM_167) rfl hK hP hD hS hA (fun _ => rfl) (by decide) (by decide) (by decide) (Nat.le_of_ble_eq_true rfl) (Nat.le_of_ble_eq_true rfl) d_M_init_33 (fun q3 c3 H hK hP hD hS => ?_)
  refine W.cs (cells' := 3) (slots' := 30) rfl rfl ?_
  have hP : va_P D kcl [(h0, .inr (4, [.int 0, .int 2, .int 4, .int 0, .ref q1, .ref q2, .null, .null, .null, .null, .null, .null, .null, .null, .null, .int 0, .int 0, .int 0, .int 0, .int 0, .null, .null])), (q1, .inl (c1, 10, .inl (fun _ => 0))), (q2, .inl (c2, 10, .inl (fun _ => 0))), (q3, .inl (c3, 10, .inl (fun _ => 0)))] H := hP
  have hD : va_D (va_A [(h0, .inr (4, [.int 0, .int 0, .int 0, .int 0, .null, .null, .null, .null, .null, .null, .null, .null, .null, .null, .null, .int 0, .int 0, .int 0, .int 0, .int 0, .null, .null]))] sz) [(h0, .inr (4, [.int 0, .int 2, .int 4, .int 0, .ref q1, .ref q2, .null, .null, .null, .null, .null, .null, .null, .null, .null, .int 0, .int 0, .int 0, .int 0, .int 0, .null, .null])), (q1, .inl (c1, 10, .inl (fun _ => 0))), (q2, .inl (c2, 10, .inl (fun _ => 0))), (q3, .inl (c3, 10, .inl (fun _ => 0)))] := hD
  have hK : va_K D kcl [(c1, .int), (c2, .int), (c3, .int)] s := hK
  refine va_putF (D := D) (ci := 4) (v := .ref q3) (ty := .array .int) (C := R_M) (T := F_M) (N := 22) hx hb htw i_M t_M t_M_ok n_M hown hK hP hD hS 0 rfl rfl 6 (by decide) (htw _ mM_11) (fun _ h9 => h9) rfl hin rfl (by decide +kernel) rfl rfl (Nat.le_of_ble_eq_true rfl) d_M_init_35 (fun H locs hP hD hS => ?_)
  have hP : va_P D kcl [(h0, .inr (4, [.int 0, .int 2, .int 4, .int 0, .ref q1, .ref q2, .ref q3, .null, .null, .null, .null, .null, .null, .null, .null, .int 0, .int 0, .int 0, .int 0, .int 0, .null, .null])), (q1, .inl (c1, 10, .inl (fun _ => 0))), (q2, .inl (c2, 10, .inl (fun _ => 0))), (q3, .inl (c3, 10, .inl (fun _ => 0)))] H := hP
  have hD : va_D (va_A [(h0, .inr (4, [.int 0, .int 0, .int 0, .int 0, .null, .null, .null, .null, .null, .null, .null, .null, .null, .null, .null, .int 0, .int 0, .int 0, .int 0, .int 0, .null, .null]))] sz) [(h0, .inr (4, [.int 0, .int 2, .int 4, .int 0, .ref q1, .ref q2, .ref q3, .null, .null, .null, .null, .null, .null, .null, .null, .int 0, .int 0, .int 0, .int 0, .int 0, .null, .null])), (q1, .inl (c1, 10, .inl (fun _ => 0))), (q2, .inl (c2, 10, .inl (fun _ => 0))), (q3, .inl (c3, 10, .inl (fun _ => 0)))] := hD
  refine lv_aload_n hx hb d_M_init_38 rfl (lv_at hl 0 rfl) ?_
  refine lv_bipush (v := 10) hx hb d_M_init_39 (by decide) ?_
  refine va_newa (atype := .int) (a0 := (10, .inl (fun _ => 0))) (N' := 10) (ty := .int) hx hb (htw _ mM_167) rfl hK hP hD hS hA (fun _ => rfl) (by decide) (by decide) (by decide) (Nat.le_of_ble_eq_true rfl) (Nat.le_of_ble_eq_true rfl) d_M_init_41 (fun q4 c4 H hK hP hD hS => ?_)
  refine W.cs (cells' := 4) (slots' := 40) rfl rfl ?_
  have hP : va_P D kcl [(h0, .inr (4, [.int 0, .int 2, .int 4, .int 0, .ref q1, .ref q2, .ref q3, .null, .null, .null, .null, .null, .null, .null, .null, .int 0, .int 0, .int 0, .int 0, .int 0, .null, .null])), (q1, .inl (c1, 10, .inl (fun _ => 0))), (q2, .inl (c2, 10, .inl (fun _ => 0))), (q3, .inl (c3, 10, .inl (fun _ => 0))), (q4, .inl (c4, 10, .inl (fun _ => 0)))] H := hP
  have hD : va_D (va_A [(h0, .inr (4, [.int 0, .int 0, .int 0, .int 0, .null, .null, .null, .null, .null, .null, .null, .null, .null, .null, .null, .int 0, .int 0, .int 0, .int 0, .int 0, .null, .null]))] sz) [(h0, .inr (4, [.int 0, .int 2, .int 4, .int 0, .ref q1, .ref q2, .ref q3, .null, .null, .null, .null, .null, .null, .null, .null, .int 0, .int 0, .int 0, .int 0, .int 0, .null, .null])), (q1, .inl (c1, 10, .inl (fun _ => 0))), (q2, .inl (c2, 10, .inl (fun _ => 0))), (q3, .inl (c3, 10, .inl (fun _ => 0))), (q4, .inl (c4, 10, .inl (fun _ => 0)))] := hD
  have hK : va_K D kcl [(c1, .int), (c2, .int), (c3, .int), (c4, .int)] s := hK
  refine va_putF (D := D) (ci := 4) (v := .ref q4) (ty := .array .int) (C := R_M) (T := F_M) (N := 22) hx hb htw i_M t_M t_M_ok n_M hown hK hP hD hS 0 rfl rfl 7 (by decide) (htw _ mM_12) (fun _ h9 => h9) rfl hin rfl (by decide +kernel) rfl rfl (Nat.le_of_ble_eq_true rfl) d_M_init_43 (fun H locs hP hD hS => ?_)
  have hP : va_P D kcl [(h0, .inr (4, [.int 0, .int 2, .int 4, .int 0, .ref q1, .ref q2, .ref q3, .ref q4, .null, .null, .null, .null, .null, .null, .null, .int 0, .int 0, .int 0, .int 0, .int 0, .null, .null])), (q1, .inl (c1, 10, .inl (fun _ => 0))), (q2, .inl (c2, 10, .inl (fun _ => 0))), (q3, .inl (c3, 10, .inl (fun _ => 0))), (q4, .inl (c4, 10, .inl (fun _ => 0)))] H := hP
  have hD : va_D (va_A [(h0, .inr (4, [.int 0, .int 0, .int 0, .int 0, .null, .null, .null, .null, .null, .null, .null, .null, .null, .null, .null, .int 0, .int 0, .int 0, .int 0, .int 0, .null, .null]))] sz) [(h0, .inr (4, [.int 0, .int 2, .int 4, .int 0, .ref q1, .ref q2, .ref q3, .ref q4, .null, .null, .null, .null, .null, .null, .null, .int 0, .int 0, .int 0, .int 0, .int 0, .null, .null])), (q1, .inl (c1, 10, .inl (fun _ => 0))), (q2, .inl (c2, 10, .inl (fun _ => 0))), (q3, .inl (c3, 10, .inl (fun _ => 0))), (q4, .inl (c4, 10, .inl (fun _ => 0)))] := hD
  refine lv_aload_n hx hb d_M_init_46 rfl (lv_at hl 0 rfl) ?_
  refine lv_sipush (v := 300) hx hb d_M_init_47 (by decide) ?_
  refine va_newa (atype := .int) (a0 := (300, .inl (fun _ => 0))) (N' := 300) (ty := .int) hx hb (htw _ mM_167) rfl hK hP hD hS hA (fun _ => rfl) (by decide) (by decide) (by decide) (Nat.le_of_ble_eq_true rfl) (Nat.le_of_ble_eq_true rfl) d_M_init_50 (fun q5 c5 H hK hP hD hS => ?_)
  refine W.cs (cells' := 5) (slots' := 340) rfl rfl ?_
  have hP : va_P D kcl [(h0, .inr (4, [.int 0, .int 2, .int 4, .int 0, .ref q1, .ref q2, .ref q3, .ref q4, .null, .null, .null, .null, .null, .null, .null, .int 0, .int 0, .int 0, .int 0, .int 0, .null, .null])), (q1, .inl (c1, 10, .inl (fun _ => 0))), (q2, .inl (c2, 10, .inl (fun _ => 0))), (q3, .inl (c3, 10, .inl (fun _ => 0))), (q4, .inl (c4, 10, .inl (fun _ => 0))), (q5, .inl (c5, 300, .inl (fun _ => 0)))] H := hP
  have hD : va_D (va_A [(h0, .inr (4, [.int 0, .int 0, .int 0, .int 0, .null, .null, .null, .null, .null, .null, .null, .null, .null, .null, .null, .int 0, .int 0, .int 0, .int 0, .int 0, .null, .null]))] sz) [(h0, .inr (4, [.int 0, .int 2, .int 4, .int 0, .ref q1, .ref q2, .ref q3, .ref q4, .null, .null, .null, .null, .null, .null, .null, .int 0, .int 0, .int 0, .int 0, .int 0, .null, .null])), (q1, .inl (c1, 10, .inl (fun _ => 0))), (q2, .inl (c2, 10, .inl (fun _ => 0))), (q3, .inl (c3, 10, .inl (fun _ => 0))), (q4, .inl (c4, 10, .inl (fun _ => 0))), (q5, .inl (c5, 300, .inl (fun _ => 0)))] := hD
  have hK : va_K D kcl [(c1, .int), (c2, .int), (c3, .int), (c4, .int), (c5, .int)] s := hK
  refine va_putF (D := D) (ci := 4) (v := .ref q5) (ty := .array .int) (C := R_M) (T := F_M) (N := 22) hx hb htw i_M t_M t_M_ok n_M hown hK hP hD hS 0 rfl rfl 8 (by decide) (htw _ mM_13) (fun _ h9 => h9) rfl hin rfl (by decide +kernel) rfl rfl (Nat.le_of_ble_eq_true rfl) d_M_init_52 (fun H locs hP hD hS => ?_)
  have hP : va_P D kcl [(h0, .inr (4, [.int 0, .int 2, .int 4, .int 0, .ref q1, .ref q2, .ref q3, .ref q4, .ref q5, .null, .null, .null, .null, .null, .null, .int 0, .int 0, .int 0, .int 0, .int 0, .null, .null])), (q1, .inl (c1, 10, .inl (fun _ => 0))), (q2, .inl (c2, 10, .inl (fun _ => 0))), (q3, .inl (c3, 10, .inl (fun _ => 0))), (q4, .inl (c4, 10, .inl (fun _ => 0))), (q5, .inl (c5, 300, .inl (fun _ => 0)))] H := hP
  have hD : va_D (va_A [(h0, .inr (4, [.int 0, .int 0, .int 0, .int 0, .null, .null, .null, .null, .null, .null, .null, .null, .null, .null, .null, .int 0, .int 0, .int 0, .int 0, .int 0, .null, .null]))] sz) [(h0, .inr (4, [.int 0, .int 2, .int 4, .int 0, .ref q1, .ref q2, .ref q3, .ref q4, .ref q5, .null, .null, .null, .null, .null, .null, .int 0, .int 0, .int 0, .int 0, .int 0, .null, .null])), (q1, .inl (c1, 10, .inl (fun _ => 0))), (q2, .inl (c2, 10, .inl (fun _ => 0))), (q3, .inl (c3, 10, .inl (fun _ => 0))), (q4, .inl (c4, 10, .inl (fun _ => 0))), (q5, .inl (c5, 300, .inl (fun _ => 0)))] := hD
  refine lv_aload_n hx hb d_M_init_55 rfl (lv_at hl 0 rfl) ?_
  refine lv_bipush (v := 60) hx hb d_M_init_56 (by decide) ?_
  refine va_newa (atype := .int) (a0 := (60, .inl (fun _ => 0))) (N' := 60) (ty := .int) hx hb (htw _ mM_167) rfl hK hP hD hS hA (fun _ => rfl) (by decide) (by decide) (by decide) (Nat.le_of_ble_eq_true rfl) (Nat.le_of_ble_eq_true rfl) d_M_init_58 (fun q6 c6 H hK hP hD hS => ?_)
  refine W.cs (cells' := 6) (slots' := 400) rfl rfl ?_
  have hP : va_P D kcl [(h0, .inr (4, [.int 0, .int 2, .int 4, .int 0, .ref q1, .ref q2, .ref q3, .ref q4, .ref q5, .null, .null, .null, .null, .null, .null, .int 0, .int 0, .int 0, .int 0, .int 0, .null, .null])), (q1, .inl (c1, 10, .inl (fun _ => 0))), (q2, .inl (c2, 10, .inl (fun _ => 0))), (q3, .inl (c3, 10, .inl (fun _ => 0))), (q4, .inl (c4, 10, .inl (fun _ => 0))), (q5, .inl (c5, 300, .inl (fun _ => 0))), (q6, .inl (c6, 60, .inl (fun _ => 0)))] H := hP
  have hD : va_D (va_A [(h0, .inr (4, [.int 0, .int 0, .int 0, .int 0, .null, .null, .null, .null, .null, .null, .null, .null, .null, .null, .null, .int 0, .int 0, .int 0, .int 0, .int 0, .null, .null]))] sz) [(h0, .inr (4, [.int 0, .int 2, .int 4, .int 0, .ref q1, .ref q2, .ref q3, .ref q4, .ref q5, .null, .null, .null, .null, .null, .null, .int 0, .int 0, .int 0, .int 0, .int 0, .null, .null])), (q1, .inl (c1, 10, .inl (fun _ => 0))), (q2, .inl (c2, 10, .inl (fun _ => 0))), (q3, .inl (c3, 10, .inl (fun _ => 0))), (q4, .inl (c4, 10, .inl (fun _ => 0))), (q5, .inl (c5, 300, .inl (fun _ => 0))), (q6, .inl (c6, 60, .inl (fun _ => 0)))] := hD
  have hK : va_K D kcl [(c1, .int), (c2, .int), (c3, .int), (c4, .int), (c5, .int), (c6, .int)] s := hK
  refine va_putF (D := D) (ci := 4) (v := .ref q6) (ty := .array .int) (C := R_M) (T := F_M) (N := 22) hx hb htw i_M t_M t_M_ok n_M hown hK hP hD hS 0 rfl rfl 9 (by decide) (htw _ mM_14) (fun _ h9 => h9) rfl hin rfl (by decide +kernel) rfl rfl (Nat.le_of_ble_eq_true rfl) d_M_init_60 (fun H locs hP hD hS => ?_)
  have hP : va_P D kcl [(h0, .inr (4, [.int 0, .int 2, .int 4, .int 0, .ref q1, .ref q2, .ref q3, .ref q4, .ref q5, .ref q6, .null, .null, .null, .null, .null, .int 0, .int 0, .int 0, .int 0, .int 0, .null, .null])), (q1, .inl (c1, 10, .inl (fun _ => 0))), (q2, .inl (c2, 10, .inl (fun _ => 0))), (q3, .inl (c3, 10, .inl (fun _ => 0))), (q4, .inl (c4, 10, .inl (fun _ => 0))), (q5, .inl (c5, 300, .inl (fun _ => 0))), (q6, .inl (c6, 60, .inl (fun _ => 0)))] H := hP
  have hD : va_D (va_A [(h0, .inr (4, [.int 0, .int 0, .int 0, .int 0, .null, .null, .null, .null, .null, .null, .null, .null, .null, .null, .null, .int 0, .int 0, .int 0, .int 0, .int 0, .null, .null]))] sz) [(h0, .inr (4, [.int 0, .int 2, .int 4, .int 0, .ref q1, .ref q2, .ref q3, .ref q4, .ref q5, .ref q6, .null, .null, .null, .null, .null, .int 0, .int 0, .int 0, .int 0, .int 0, .null, .null])), (q1, .inl (c1, 10, .inl (fun _ => 0))), (q2, .inl (c2, 10, .inl (fun _ => 0))), (q3, .inl (c3, 10, .inl (fun _ => 0))), (q4, .inl (c4, 10, .inl (fun _ => 0))), (q5, .inl (c5, 300, .inl (fun _ => 0))), (q6, .inl (c6, 60, .inl (fun _ => 0)))] := hD
  refine lv_aload_n hx hb d_M_init_63 rfl (lv_at hl 0 rfl) ?_
  refine lv_bipush (v := 15) hx hb d_M_init_64 (by decide) ?_
  refine va_newa (atype := .int) (a0 := (15, .inl (fun _ => 0))) (N' := 15) (ty := .int) hx hb (htw _ mM_167) rfl hK hP hD hS hA (fun _ => rfl) (by decide) (by decide) (by decide) (Nat.le_of_ble_eq_true rfl) (Nat.le_of_ble_eq_true rfl) d_M_init_66 (fun q7 c7 H hK hP hD hS => ?_)
  refine W.cs (cells' := 7) (slots' := 415) rfl rfl ?_
  have hP : va_P D kcl [(h0, .inr (4, [.int 0, .int 2, .int 4, .int 0, .ref q1, .ref q2, .ref q3, .ref q4, .ref q5, .ref q6, .null, .null, .null, .null, .null, .int 0, .int 0, .int 0, .int 0, .int 0, .null, .null])), (q1, .inl (c1, 10, .inl (fun _ => 0))), (q2, .inl (c2, 10, .inl (fun _ => 0))), (q3, .inl (c3, 10, .inl (fun _ => 0))), (q4, .inl (c4, 10, .inl (fun _ => 0))), (q5, .inl (c5, 300, .inl (fun _ => 0))), (q6, .inl (c6, 60, .inl (fun _ => 0))), (q7, .inl (c7, 15, .inl (fun _ => 0)))] H := hP
  have hD : va_D (va_A [(h0, .inr (4, [.int 0, .int 0, .int 0, .int 0, .null, .null, .null, .null, .null, .null, .null, .null, .null, .null, .null, .int 0, .int 0, .int 0, .int 0, .int 0, .null, .null]))] sz) [(h0, .inr (4, [.int 0, .int 2, .int 4, .int 0, .ref q1, .ref q2, .ref q3, .ref q4, .ref q5, .ref q6, .null, .null, .null, .null, .null, .int 0, .int 0, .int 0, .int 0, .int 0, .null, .null])), (q1, .inl (c1, 10, .inl (fun _ => 0))), (q2, .inl (c2, 10, .inl (fun _ => 0))), (q3, .inl (c3, 10, .inl (fun _ => 0))), (q4, .inl (c4, 10, .inl (fun _ => 0))), (q5, .inl (c5, 300, .inl (fun _ => 0))), (q6, .inl (c6, 60, .inl (fun _ => 0))), (q7, .inl (c7, 15, .inl (fun _ => 0)))] := hD
  have hK : va_K D kcl [(c1, .int), (c2, .int), (c3, .int), (c4, .int), (c5, .int), (c6, .int), (c7, .int)] s := hK
  refine va_putF (D := D) (ci := 4) (v := .ref q7) (ty := .array .int) (C := R_M) (T := F_M) (N := 22) hx hb htw i_M t_M t_M_ok n_M hown hK hP hD hS 0 rfl rfl 10 (by decide) (htw _ mM_15) (fun _ h9 => h9) rfl hin rfl (by decide +kernel) rfl rfl (Nat.le_of_ble_eq_true rfl) d_M_init_68 (fun H locs hP hD hS => ?_)
  have hP : va_P D kcl [(h0, .inr (4, [.int 0, .int 2, .int 4, .int 0, .ref q1, .ref q2, .ref q3, .ref q4, .ref q5, .ref q6, .ref q7, .null, .null, .null, .null, .int 0, .int 0, .int 0, .int 0, .int 0, .null, .null])), (q1, .inl (c1, 10, .inl (fun _ => 0))), (q2, .inl (c2, 10, .inl (fun _ => 0))), (q3, .inl (c3, 10, .inl (fun _ => 0))), (q4, .inl (c4, 10, .inl (fun _ => 0))), (q5, .inl (c5, 300, .inl (fun _ => 0))), (q6, .inl (c6, 60, .inl (fun _ => 0))), (q7, .inl (c7, 15, .inl (fun _ => 0)))] H := hP
  have hD : va_D (va_A [(h0, .inr (4, [.int 0, .int 0, .int 0, .int 0, .null, .null, .null, .null, .null, .null, .null, .null, .null, .null, .null, .int 0, .int 0, .int 0, .int 0, .int 0, .null, .null]))] sz) [(h0, .inr (4, [.int 0, .int 2, .int 4, .int 0, .ref q1, .ref q2, .ref q3, .ref q4, .ref q5, .ref q6, .ref q7, .null, .null, .null, .null, .int 0, .int 0, .int 0, .int 0, .int 0, .null, .null])), (q1, .inl (c1, 10, .inl (fun _ => 0))), (q2, .inl (c2, 10, .inl (fun _ => 0))), (q3, .inl (c3, 10, .inl (fun _ => 0))), (q4, .inl (c4, 10, .inl (fun _ => 0))), (q5, .inl (c5, 300, .inl (fun _ => 0))), (q6, .inl (c6, 60, .inl (fun _ => 0))), (q7, .inl (c7, 15, .inl (fun _ => 0)))] := hD
  refine lv_aload_n hx hb d_M_init_71 rfl (lv_at hl 0 rfl) ?_
  refine lv_bipush (v := 15) hx hb d_M_init_72 (by decide) ?_
  refine va_newa (atype := .int) (a0 := (15, .inl (fun _ => 0))) (N' := 15) (ty := .int) hx hb (htw _ mM_167) rfl hK hP hD hS hA (fun _ => rfl) (by decide) (by decide) (by decide) (Nat.le_of_ble_eq_true rfl) (Nat.le_of_ble_eq_true rfl) d_M_init_74 (fun q8 c8 H hK hP hD hS => ?_)
  refine W.cs (cells' := 8) (slots' := 430) rfl rfl ?_
  have hP : va_P D kcl [(h0, .inr (4, [.int 0, .int 2, .int 4, .int 0, .ref q1, .ref q2, .ref q3, .ref q4, .ref q5, .ref q6, .ref q7, .null, .null, .null, .null, .int 0, .int 0, .int 0, .int 0, .int 0, .null, .null])), (q1, .inl (c1, 10, .inl (fun _ => 0))), (q2, .inl (c2, 10, .inl (fun _ => 0))), (q3, .inl (c3, 10, .inl (fun _ => 0))), (q4, .inl (c4, 10, .inl (fun _ => 0))), (q5, .inl (c5, 300, .inl (fun _ => 0))), (q6, .inl (c6, 60, .inl (fun _ => 0))), (q7, .inl (c7, 15, .inl (fun _ => 0))), (q8, .inl (c8, 15, .inl (fun _ => 0)))] H := hP
  have hD : va_D (va_A [(h0, .inr (4, [.int 0, .int 0, .int 0, .int 0, .null, .null, .null, .null, .null, .null, .null, .null, .null, .null, .null, .int 0, .int 0, .int 0, .int 0, .int 0, .null, .null]))] sz) [(h0, .inr (4, [.int 0, .int 2, .int 4, .int 0, .ref q1, .ref q2, .ref q3, .ref q4, .ref q5, .ref q6, .ref q7, .null, .null, .null, .null, .int 0, .int 0, .int 0, .int 0, .int 0, .null, .null])), (q1, .inl (c1, 10, .inl (fun _ => 0))), (q2, .inl (c2, 10, .inl (fun _ => 0))), (q3, .inl (c3, 10, .inl (fun _ => 0))), (q4, .inl (c4, 10, .inl (fun _ => 0))), (q5, .inl (c5, 300, .inl (fun _ => 0))), (q6, .inl (c6, 60, .inl (fun _ => 0))), (q7, .inl (c7, 15, .inl (fun _ => 0))), (q8, .inl (c8, 15, .inl (fun _ => 0)))] := hD
  have hK : va_K D kcl [(c1, .int), (c2, .int), (c3, .int), (c4, .int), (c5, .int), (c6, .int), (c7, .int), (c8, .int)] s := hK
  refine va_putF (D := D) (ci := 4) (v := .ref q8) (ty := .array .int) (C := R_M) (T := F_M) (N := 22) hx hb htw i_M t_M t_M_ok n_M hown hK hP hD hS 0 rfl rfl 11 (by decide) (htw _ mM_16) (fun _ h9 => h9) rfl hin rfl (by decide +kernel) rfl rfl (Nat.le_of_ble_eq_true rfl) d_M_init_76 (fun H locs hP hD hS => ?_)
  have hP : va_P D kcl [(h0, .inr (4, [.int 0, .int 2, .int 4, .int 0, .ref q1, .ref q2, .ref q3, .ref q4, .ref q5, .ref q6, .ref q7, .ref q8, .null, .null, .null, .int 0, .int 0, .int 0, .int 0, .int 0, .null, .null])), (q1, .inl (c1, 10, .inl (fun _ => 0))), (q2, .inl (c2, 10, .inl (fun _ => 0))), (q3, .inl (c3, 10, .inl (fun _ => 0))), (q4, .inl (c4, 10, .inl (fun _ => 0))), (q5, .inl (c5, 300, .inl (fun _ => 0))), (q6, .inl (c6, 60, .inl (fun _ => 0))), (q7, .inl (c7, 15, .inl (fun _ => 0))), (q8, .inl (c8, 15, .inl (fun _ => 0)))] H := hP
  have hD : va_D (va_A [(h0, .inr (4, [.int 0, .int 0, .int 0, .int 0, .null, .null, .null, .null, .null, .null, .null, .null, .null, .null, .null, .int 0, .int 0, .int 0, .int 0, .int 0, .null, .null]))] sz) [(h0, .inr (4, [.int 0, .int 2, .int 4, .int 0, .ref q1, .ref q2, .ref q3, .ref q4, .ref q5, .ref q6, .ref q7, .ref q8, .null, .null, .null, .int 0, .int 0, .int 0, .int 0, .int 0, .null, .null])), (q1, .inl (c1, 10, .inl (fun _ => 0))), (q2, .inl (c2, 10, .inl (fun _ => 0))), (q3, .inl (c3, 10, .inl (fun _ => 0))), (q4, .inl (c4, 10, .inl (fun _ => 0))), (q5, .inl (c5, 300, .inl (fun _ => 0))), (q6, .inl (c6, 60, .inl (fun _ => 0))), (q7, .inl (c7, 15, .inl (fun _ => 0))), (q8, .inl (c8, 15, .inl (fun _ => 0)))] := hD
  refine lv_aload_n hx hb d_M_init_79 rfl (lv_at hl 0 rfl) ?_
  refine lv_bipush (v := 40) hx hb d_M_init_80 (by decide) ?_
  refine va_newa (atype := .int) (a0 := (40, .inl (fun _ => 0))) (N' := 40) (ty := .int) hx hb (htw _ mM_167) rfl hK hP hD hS hA (fun _ => rfl) (by decide) (by decide) (by decide) (Nat.le_of_ble_eq_true rfl) (Nat.le_of_ble_eq_true rfl) d_M_init_82 (fun q9 c9 H hK hP hD hS => ?_)
  refine W.cs (cells' := 9) (slots' := 470) rfl rfl ?_
  have hP : va_P D kcl [(h0, .inr (4, [.int 0, .int 2, .int 4, .int 0, .ref q1, .ref q2, .ref q3, .ref q4, .ref q5, .ref q6, .ref q7, .ref q8, .null, .null, .null, .int 0, .int 0, .int 0, .int 0, .int 0, .null, .null])), (q1, .inl (c1, 10, .inl (fun _ => 0))), (q2, .inl (c2, 10, .inl (fun _ => 0))), (q3, .inl (c3, 10, .inl (fun _ => 0))), (q4, .inl (c4, 10, .inl (fun _ => 0))), (q5, .inl (c5, 300, .inl (fun _ => 0))), (q6, .inl (c6, 60, .inl (fun _ => 0))), (q7, .inl (c7, 15, .inl (fun _ => 0))), (q8, .inl (c8, 15, .inl (fun _ => 0))), (q9, .inl (c9, 40, .inl (fun _ => 0)))] H := hP
  have hD : va_D (va_A [(h0, .inr (4, [.int 0, .int 0, .int 0, .int 0, .null, .null, .null, .null, .null, .null, .null, .null, .null, .null, .null, .int 0, .int 0, .int 0, .int 0, .int 0, .null, .null]))] sz) [(h0, .inr (4, [.int 0, .int 2, .int 4, .int 0, .ref q1, .ref q2, .ref q3, .ref q4, .ref q5, .ref q6, .ref q7, .ref q8, .null, .null, .null, .int 0, .int 0, .int 0, .int 0, .int 0, .null, .null])), (q1, .inl (c1, 10, .inl (fun _ => 0))), (q2, .inl (c2, 10, .inl (fun _ => 0))), (q3, .inl (c3, 10, .inl (fun _ => 0))), (q4, .inl (c4, 10, .inl (fun _ => 0))), (q5, .inl (c5, 300, .inl (fun _ => 0))), (q6, .inl (c6, 60, .inl (fun _ => 0))), (q7, .inl (c7, 15, .inl (fun _ => 0))), (q8, .inl (c8, 15, .inl (fun _ => 0))), (q9, .inl (c9, 40, .inl (fun _ => 0)))] := hD
  have hK : va_K D kcl [(c1, .int), (c2, .int), (c3, .int), (c4, .int), (c5, .int), (c6, .int), (c7, .int), (c8, .int), (c9, .int)] s := hK
  refine va_putF (D := D) (ci := 4) (v := .ref q9) (ty := .array .int) (C := R_M) (T := F_M) (N := 22) hx hb htw i_M t_M t_M_ok n_M hown hK hP hD hS 0 rfl rfl 12 (by decide) (htw _ mM_17) (fun _ h9 => h9) rfl hin rfl (by decide +kernel) rfl rfl (Nat.le_of_ble_eq_true rfl) d_M_init_84 (fun H locs hP hD hS => ?_)
  have hP : va_P D kcl [(h0, .inr (4, [.int 0, .int 2, .int 4, .int 0, .ref q1, .ref q2, .ref q3, .ref q4, .ref q5, .ref q6, .ref q7, .ref q8, .ref q9, .null, .null, .int 0, .int 0, .int 0, .int 0, .int 0, .null, .null])), (q1, .inl (c1, 10, .inl (fun _ => 0))), (q2, .inl (c2, 10, .inl (fun _ => 0))), (q3, .inl (c3, 10, .inl (fun _ => 0))), (q4, .inl (c4, 10, .inl (fun _ => 0))), (q5, .inl (c5, 300, .inl (fun _ => 0))), (q6, .inl (c6, 60, .inl (fun _ => 0))), (q7, .inl (c7, 15, .inl (fun _ => 0))), (q8, .inl (c8, 15, .inl (fun _ => 0))), (q9, .inl (c9, 40, .inl (fun _ => 0)))] H := hP
  have hD : va_D (va_A [(h0, .inr (4, [.int 0, .int 0, .int 0, .int 0, .null, .null, .null, .null, .null, .null, .null, .null, .null, .null, .null, .int 0, .int 0, .int 0, .int 0, .int 0, .null, .null]))] sz) [(h0, .inr (4, [.int 0, .int 2, .int 4, .int 0, .ref q1, .ref q2, .ref q3, .ref q4, .ref q5, .ref q6, .ref q7, .ref q8, .ref q9, .null, .null, .int 0, .int 0, .int 0, .int 0, .int 0, .null, .null])), (q1, .inl (c1, 10, .inl (fun _ => 0))), (q2, .inl (c2, 10, .inl (fun _ => 0))), (q3, .inl (c3, 10, .inl (fun _ => 0))), (q4, .inl (c4, 10, .inl (fun _ => 0))), (q5, .inl (c5, 300, .inl (fun _ => 0))), (q6, .inl (c6, 60, .inl (fun _ => 0))), (q7, .inl (c7, 15, .inl (fun _ => 0))), (q8, .inl (c8, 15, .inl (fun _ => 0))), (q9, .inl (c9, 40, .inl (fun _ => 0)))] := hD
  refine lv_aload_n hx hb d_M_init_87 rfl (lv_at hl 0 rfl) ?_
  refine lv_bipush (v := 40) hx hb d_M_init_88 (by decide) ?_
  refine va_newa (atype := .int) (a0 := (40, .inl (fun _ => 0))) (N' := 40) (ty := .int) hx hb (htw _ mM_167) rfl hK hP hD hS hA (fun _ => rfl) (by decide) (by decide) (by decide) (Nat.le_of_ble_eq_true rfl) (Nat.le_of_ble_eq_true rfl) d_M_init_90 (fun q10 c10 H hK hP hD hS => ?_)
  refine W.cs (cells' := 10) (slots' := 510) rfl rfl ?_
  have hP : va_P D kcl [(h0, .inr (4, [.int 0, .int 2, .int 4, .int 0, .ref q1, .ref q2, .ref q3, .ref q4, .ref q5, .ref q6, .ref q7, .ref q8, .ref q9, .null, .null, .int 0, .int 0, .int 0, .int 0, .int 0, .null, .null])), (q1, .inl (c1, 10, .inl (fun _ => 0))), (q2, .inl (c2, 10, .inl (fun _ => 0))), (q3, .inl (c3, 10, .inl (fun _ => 0))), (q4, .inl (c4, 10, .inl (fun _ => 0))), (q5, .inl (c5, 300, .inl (fun _ => 0))), (q6, .inl (c6, 60, .inl (fun _ => 0))), (q7, .inl (c7, 15, .inl (fun _ => 0))), (q8, .inl (c8, 15, .inl (fun _ => 0))), (q9, .inl (c9, 40, .inl (fun _ => 0))), (q10, .inl (c10, 40, .inl (fun _ => 0)))] H := hP
  have hD : va_D (va_A [(h0, .inr (4, [.int 0, .int 0, .int 0, .int 0, .null, .null, .null, .null, .null, .null, .null, .null, .null, .null, .null, .int 0, .int 0, .int 0, .int 0, .int 0, .null, .null]))] sz) [(h0, .inr (4, [.int 0, .int 2, .int 4, .int 0, .ref q1, .ref q2, .ref q3, .ref q4, .ref q5, .ref q6, .ref q7, .ref q8, .ref q9, .null, .null, .int 0, .int 0, .int 0, .int 0, .int 0, .null, .null])), (q1, .inl (c1, 10, .inl (fun _ => 0))), (q2, .inl (c2, 10, .inl (fun _ => 0))), (q3, .inl (c3, 10, .inl (fun _ => 0))), (q4, .inl (c4, 10, .inl (fun _ => 0))), (q5, .inl (c5, 300, .inl (fun _ => 0))), (q6, .inl (c6, 60, .inl (fun _ => 0))), (q7, .inl (c7, 15, .inl (fun _ => 0))), (q8, .inl (c8, 15, .inl (fun _ => 0))), (q9, .inl (c9, 40, .inl (fun _ => 0))), (q10, .inl (c10, 40, .inl (fun _ => 0)))] := hD
  have hK : va_K D kcl [(c1, .int), (c2, .int), (c3, .int), (c4, .int), (c5, .int), (c6, .int), (c7, .int), (c8, .int), (c9, .int), (c10, .int)] s := hK
  refine va_putF (D := D) (ci := 4) (v := .ref q10) (ty := .array .int) (C := R_M) (T := F_M) (N := 22) hx hb htw i_M t_M t_M_ok n_M hown hK hP hD hS 0 rfl rfl 13 (by decide) (htw _ mM_18) (fun _ h9 => h9) rfl hin rfl (by decide +kernel) rfl rfl (Nat.le_of_ble_eq_true rfl) d_M_init_92 (fun H locs hP hD hS => ?_)
  have hP : va_P D kcl [(h0, .inr (4, [.int 0, .int 2, .int 4, .int 0, .ref q1, .ref q2, .ref q3, .ref q4, .ref q5, .ref q6, .ref q7, .ref q8, .ref q9, .ref q10, .null, .int 0, .int 0, .int 0, .int 0, .int 0, .null, .null])), (q1, .inl (c1, 10, .inl (fun _ => 0))), (q2, .inl (c2, 10, .inl (fun _ => 0))), (q3, .inl (c3, 10, .inl (fun _ => 0))), (q4, .inl (c4, 10, .inl (fun _ => 0))), (q5, .inl (c5, 300, .inl (fun _ => 0))), (q6, .inl (c6, 60, .inl (fun _ => 0))), (q7, .inl (c7, 15, .inl (fun _ => 0))), (q8, .inl (c8, 15, .inl (fun _ => 0))), (q9, .inl (c9, 40, .inl (fun _ => 0))), (q10, .inl (c10, 40, .inl (fun _ => 0)))] H := hP
  have hD : va_D (va_A [(h0, .inr (4, [.int 0, .int 0, .int 0, .int 0, .null, .null, .null, .null, .null, .null, .null, .null, .null, .null, .null, .int 0, .int 0, .int 0, .int 0, .int 0, .null, .null]))] sz) [(h0, .inr (4, [.int 0, .int 2, .int 4, .int 0, .ref q1, .ref q2, .ref q3, .ref q4, .ref q5, .ref q6, .ref q7, .ref q8, .ref q9, .ref q10, .null, .int 0, .int 0, .int 0, .int 0, .int 0, .null, .null])), (q1, .inl (c1, 10, .inl (fun _ => 0))), (q2, .inl (c2, 10, .inl (fun _ => 0))), (q3, .inl (c3, 10, .inl (fun _ => 0))), (q4, .inl (c4, 10, .inl (fun _ => 0))), (q5, .inl (c5, 300, .inl (fun _ => 0))), (q6, .inl (c6, 60, .inl (fun _ => 0))), (q7, .inl (c7, 15, .inl (fun _ => 0))), (q8, .inl (c8, 15, .inl (fun _ => 0))), (q9, .inl (c9, 40, .inl (fun _ => 0))), (q10, .inl (c10, 40, .inl (fun _ => 0)))] := hD
  refine lv_aload_n hx hb d_M_init_95 rfl (lv_at hl 0 rfl) ?_
  refine lv_bipush (v := 15) hx hb d_M_init_96 (by decide) ?_
  refine va_newa (atype := .int) (a0 := (15, .inl (fun _ => 0))) (N' := 15) (ty := .int) hx hb (htw _ mM_167) rfl hK hP hD hS hA (fun _ => rfl) (by decide) (by decide) (by decide) (Nat.le_of_ble_eq_true rfl) (Nat.le_of_ble_eq_true rfl) d_M_init_98 (fun q11 c11 H hK hP hD hS => ?_)
  refine W.cs (cells' := 11) (slots' := 525) rfl rfl ?_
  have hP : va_P D kcl [(h0, .inr (4, [.int 0, .int 2, .int 4, .int 0, .ref q1, .ref q2, .ref q3, .ref q4, .ref q5, .ref q6, .ref q7, .ref q8, .ref q9, .ref q10, .null, .int 0, .int 0, .int 0, .int 0, .int 0, .null, .null])), (q1, .inl (c1, 10, .inl (fun _ => 0))), (q2, .inl (c2, 10, .inl (fun _ => 0))), (q3, .inl (c3, 10, .inl (fun _ => 0))), (q4, .inl (c4, 10, .inl (fun _ => 0))), (q5, .inl (c5, 300, .inl (fun _ => 0))), (q6, .inl (c6, 60, .inl (fun _ => 0))), (q7, .inl (c7, 15, .inl (fun _ => 0))), (q8, .inl (c8, 15, .inl (fun _ => 0))), (q9, .inl (c9, 40, .inl (fun _ => 0))), (q10, .inl (c10, 40, .inl (fun _ => 0))), (q11, .inl (c11, 15, .inl (fun _ => 0)))] H := hP
  have hD : va_D (va_A [(h0, .inr (4, [.int 0, .int 0, .int 0, .int 0, .null, .null, .null, .null, .null, .null, .null, .null, .null, .null, .null, .int 0, .int 0, .int 0, .int 0, .int 0, .null, .null]))] sz) [(h0, .inr (4, [.int 0, .int 2, .int 4, .int 0, .ref q1, .ref q2, .ref q3, .ref q4, .ref q5, .ref q6, .ref q7, .ref q8, .ref q9, .ref q10, .null, .int 0, .int 0, .int 0, .int 0, .int 0, .null, .null])), (q1, .inl (c1, 10, .inl (fun _ => 0))), (q2, .inl (c2, 10, .inl (fun _ => 0))), (q3, .inl (c3, 10, .inl (fun _ => 0))), (q4, .inl (c4, 10, .inl (fun _ => 0))), (q5, .inl (c5, 300, .inl (fun _ => 0))), (q6, .inl (c6, 60, .inl (fun _ => 0))), (q7, .inl (c7, 15, .inl (fun _ => 0))), (q8, .inl (c8, 15, .inl (fun _ => 0))), (q9, .inl (c9, 40, .inl (fun _ => 0))), (q10, .inl (c10, 40, .inl (fun _ => 0))), (q11, .inl (c11, 15, .inl (fun _ => 0)))] := hD
  have hK : va_K D kcl [(c1, .int), (c2, .int), (c3, .int), (c4, .int), (c5, .int), (c6, .int), (c7, .int), (c8, .int), (c9, .int), (c10, .int), (c11, .int)] s := hK
  refine va_putF (D := D) (ci := 4) (v := .ref q11) (ty := .array .int) (C := R_M) (T := F_M) (N := 22) hx hb htw i_M t_M t_M_ok n_M hown hK hP hD hS 0 rfl rfl 14 (by decide) (htw _ mM_19) (fun _ h9 => h9) rfl hin rfl (by decide +kernel) rfl rfl (Nat.le_of_ble_eq_true rfl) d_M_init_100 (fun H locs hP hD hS => ?_)
  have hP : va_P D kcl [(h0, .inr (4, [.int 0, .int 2, .int 4, .int 0, .ref q1, .ref q2, .ref q3, .ref q4, .ref q5, .ref q6, .ref q7, .ref q8, .ref q9, .ref q10, .ref q11, .int 0, .int 0, .int 0, .int 0, .int 0, .null, .null])), (q1, .inl (c1, 10, .inl (fun _ => 0))), (q2, .inl (c2, 10, .inl (fun _ => 0))), (q3, .inl (c3, 10, .inl (fun _ => 0))), (q4, .inl (c4, 10, .inl (fun _ => 0))), (q5, .inl (c5, 300, .inl (fun _ => 0))), (q6, .inl (c6, 60, .inl (fun _ => 0))), (q7, .inl (c7, 15, .inl (fun _ => 0))), (q8, .inl (c8, 15, .inl (fun _ => 0))), (q9, .inl (c9, 40, .inl (fun _ => 0))), (q10, .inl (c10, 40, .inl (fun _ => 0))), (q11, .inl (c11, 15, .inl (fun _ => 0)))] H := hP
  have hD : va_D (va_A [(h0, .inr (4, [.int 0, .int 0, .int 0, .int 0, .null, .null, .null, .null, .null, .null, .null, .null, .null, .null, .null, .int 0, .int 0, .int 0, .int 0, .int 0, .null, .null]))] sz) [(h0, .inr (4, [.int 0, .int 2, .int 4, .int 0, .ref q1, .ref q2, .ref q3, .ref q4, .ref q5, .ref q6, .ref q7, .ref q8, .ref q9, .ref q10, .ref q11, .int 0, .int 0, .int 0, .int 0, .int 0, .null, .null])), (q1, .inl (c1, 10, .inl (fun _ => 0))), (q2, .inl (c2, 10, .inl (fun _ => 0))), (q3, .inl (c3, 10, .inl (fun _ => 0))), (q4, .inl (c4, 10, .inl (fun _ => 0))), (q5, .inl (c5, 300, .inl (fun _ => 0))), (q6, .inl (c6, 60, .inl (fun _ => 0))), (q7, .inl (c7, 15, .inl (fun _ => 0))), (q8, .inl (c8, 15, .inl (fun _ => 0))), (q9, .inl (c9, 40, .inl (fun _ => 0))), (q10, .inl (c10, 40, .inl (fun _ => 0))), (q11, .inl (c11, 15, .inl (fun _ => 0)))] := hD
  refine lv_aload_n hx hb d_M_init_103 rfl (lv_at hl 0 rfl) ?_
  refine lv_iconst (v := 4) hx hb d_M_init_104 (by decide) ?_
  refine va_newa (atype := .int) (a0 := (4, .inl (fun _ => 0))) (N' := 4) (ty := .int) hx hb (htw _ mM_167) rfl hK hP hD hS hA (fun _ => rfl) (by decide) (by decide) (by decide) (Nat.le_of_ble_eq_true rfl) (Nat.le_of_ble_eq_true rfl) d_M_init_105 (fun q12 c12 H hK hP hD hS => ?_)
  refine W.cs (cells' := 12) (slots' := 529) rfl rfl ?_
  have hP : va_P D kcl [(h0, .inr (4, [.int 0, .int 2, .int 4, .int 0, .ref q1, .ref q2, .ref q3, .ref q4, .ref q5, .ref q6, .ref q7, .ref q8, .ref q9, .ref q10, .ref q11, .int 0, .int 0, .int 0, .int 0, .int 0, .null, .null])), (q1, .inl (c1, 10, .inl (fun _ => 0))), (q2, .inl (c2, 10, .inl (fun _ => 0))), (q3, .inl (c3, 10, .inl (fun _ => 0))), (q4, .inl (c4, 10, .inl (fun _ => 0))), (q5, .inl (c5, 300, .inl (fun _ => 0))), (q6, .inl (c6, 60, .inl (fun _ => 0))), (q7, .inl (c7, 15, .inl (fun _ => 0))), (q8, .inl (c8, 15, .inl (fun _ => 0))), (q9, .inl (c9, 40, .inl (fun _ => 0))), (q10, .inl (c10, 40, .inl (fun _ => 0))), (q11, .inl (c11, 15, .inl (fun _ => 0))), (q12, .inl (c12, 4, .inl (fun _ => 0)))] H := hP
  have hD : va_D (va_A [(h0, .inr (4, [.int 0, .int 0, .int 0, .int 0, .null, .null, .null, .null, .null, .null, .null, .null, .null, .null, .null, .int 0, .int 0, .int 0, .int 0, .int 0, .null, .null]))] sz) [(h0, .inr (4, [.int 0, .int 2, .int 4, .int 0, .ref q1, .ref q2, .ref q3, .ref q4, .ref q5, .ref q6, .ref q7, .ref q8, .ref q9, .ref q10, .ref q11, .int 0, .int 0, .int 0, .int 0, .int 0, .null, .null])), (q1, .inl (c1, 10, .inl (fun _ => 0))), (q2, .inl (c2, 10, .inl (fun _ => 0))), (q3, .inl (c3, 10, .inl (fun _ => 0))), (q4, .inl (c4, 10, .inl (fun _ => 0))), (q5, .inl (c5, 300, .inl (fun _ => 0))), (q6, .inl (c6, 60, .inl (fun _ => 0))), (q7, .inl (c7, 15, .inl (fun _ => 0))), (q8, .inl (c8, 15, .inl (fun _ => 0))), (q9, .inl (c9, 40, .inl (fun _ => 0))), (q10, .inl (c10, 40, .inl (fun _ => 0))), (q11, .inl (c11, 15, .inl (fun _ => 0))), (q12, .inl (c12, 4, .inl (fun _ => 0)))] := hD
  have hK : va_K D kcl [(c1, .int), (c2, .int), (c3, .int), (c4, .int), (c5, .int), (c6, .int), (c7, .int), (c8, .int), (c9, .int), (c10, .int), (c11, .int), (c12, .int)] s := hK
  refine va_putF (D := D) (ci := 4) (v := .ref q12) (ty := .array .int) (C := R_M) (T := F_M) (N := 22) hx hb htw i_M t_M t_M_ok n_M hown hK hP hD hS 0 rfl rfl 20 (by decide) (htw _ mM_25) (fun _ h9 => h9) rfl hin rfl (by decide +kernel) rfl rfl (Nat.le_of_ble_eq_true rfl) d_M_init_107 (fun H locs hP hD hS => ?_)
  have hP : va_P D kcl [(h0, .inr (4, [.int 0, .int 2, .int 4, .int 0, .ref q1, .ref q2, .ref q3, .ref q4, .ref q5, .ref q6, .ref q7, .ref q8, .ref q9, .ref q10, .ref q11, .int 0, .int 0, .int 0, .int 0, .int 0, .ref q12, .null])), (q1, .inl (c1, 10, .inl (fun _ => 0))), (q2, .inl (c2, 10, .inl (fun _ => 0))), (q3, .inl (c3, 10, .inl (fun _ => 0))), (q4, .inl (c4, 10, .inl (fun _ => 0))), (q5, .inl (c5, 300, .inl (fun _ => 0))), (q6, .inl (c6, 60, .inl (fun _ => 0))), (q7, .inl (c7, 15, .inl (fun _ => 0))), (q8, .inl (c8, 15, .inl (fun _ => 0))), (q9, .inl (c9, 40, .inl (fun _ => 0))), (q10, .inl (c10, 40, .inl (fun _ => 0))), (q11, .inl (c11, 15, .inl (fun _ => 0))), (q12, .inl (c12, 4, .inl (fun _ => 0)))] H := hP
  have hD : va_D (va_A [(h0, .inr (4, [.int 0, .int 0, .int 0, .int 0, .null, .null, .null, .null, .null, .null, .null, .null, .null, .null, .null, .int 0, .int 0, .int 0, .int 0, .int 0, .null, .null]))] sz) [(h0, .inr (4, [.int 0, .int 2, .int 4, .int 0, .ref q1, .ref q2, .ref q3, .ref q4, .ref q5, .ref q6, .ref q7, .ref q8, .ref q9, .ref q10, .ref q11, .int 0, .int 0, .int 0, .int 0, .int 0, .ref q12, .null])), (q1, .inl (c1, 10, .inl (fun _ => 0))), (q2, .inl (c2, 10, .inl (fun _ => 0))), (q3, .inl (c3, 10, .inl (fun _ => 0))), (q4, .inl (c4, 10, .inl (fun _ => 0))), (q5, .inl (c5, 300, .inl (fun _ => 0))), (q6, .inl (c6, 60, .inl (fun _ => 0))), (q7, .inl (c7, 15, .inl (fun _ => 0))), (q8, .inl (c8, 15, .inl (fun _ => 0))), (q9, .inl (c9, 40, .inl (fun _ => 0))), (q10, .inl (c10, 40, .inl (fun _ => 0))), (q11, .inl (c11, 15, .inl (fun _ => 0))), (q12, .inl (c12, 4, .inl (fun _ => 0)))] := hD
  refine lv_aload_n hx hb d_M_init_110 rfl (lv_at hl 0 rfl) ?_
  refine lv_iconst (v := 4) hx hb d_M_init_111 (by decide) ?_
  refine va_newa (atype := .int) (a0 := (4, .inl (fun _ => 0))) (N' := 4) (ty := .int) hx hb (htw _ mM_167) rfl hK hP hD hS hA (fun _ => rfl) (by decide) (by decide) (by decide) (Nat.le_of_ble_eq_true rfl) (Nat.le_of_ble_eq_true rfl) d_M_init_112 (fun q13 c13 H hK hP hD hS => ?_)
  refine W.cs (cells' := 13) (slots' := 533) rfl rfl ?_
  have hP : va_P D kcl [(h0, .inr (4, [.int 0, .int 2, .int 4, .int 0, .ref q1, .ref q2, .ref q3, .ref q4, .ref q5, .ref q6, .ref q7, .ref q8, .ref q9, .ref q10, .ref q11, .int 0, .int 0, .int 0, .int 0, .int 0, .ref q12, .null])), (q1, .inl (c1, 10, .inl (fun _ => 0))), (q2, .inl (c2, 10, .inl (fun _ => 0))), (q3, .inl (c3, 10, .inl (fun _ => 0))), (q4, .inl (c4, 10, .inl (fun _ => 0))), (q5, .inl (c5, 300, .inl (fun _ => 0))), (q6, .inl (c6, 60, .inl (fun _ => 0))), (q7, .inl (c7, 15, .inl (fun _ => 0))), (q8, .inl (c8, 15, .inl (fun _ => 0))), (q9, .inl (c9, 40, .inl (fun _ => 0))), (q10, .inl (c10, 40, .inl (fun _ => 0))), (q11, .inl (c11, 15, .inl (fun _ => 0))), (q12, .inl (c12, 4, .inl (fun _ => 0))), (q13, .inl (c13, 4, .inl (fun _ => 0)))] H := hP
  have hD : va_D (va_A [(h0, .inr (4, [.int 0, .int 0, .int 0, .int 0, .null, .null, .null, .null, .null, .null, .null, .null, .null, .null, .null, .int 0, .int 0, .int 0, .int 0, .int 0, .null, .null]))] sz) [(h0, .inr (4, [.int 0, .int 2, .int 4, .int 0, .ref q1, .ref q2, .ref q3, .ref q4, .ref q5, .ref q6, .ref q7, .ref q8, .ref q9, .ref q10, .ref q11, .int 0, .int 0, .int 0, .int 0, .int 0, .ref q12, .null])), (q1, .inl (c1, 10, .inl (fun _ => 0))), (q2, .inl (c2, 10, .inl (fun _ => 0))), (q3, .inl (c3, 10, .inl (fun _ => 0))), (q4, .inl (c4, 10, .inl (fun _ => 0))), (q5, .inl (c5, 300, .inl (fun _ => 0))), (q6, .inl (c6, 60, .inl (fun _ => 0))), (q7, .inl (c7, 15, .inl (fun _ => 0))), (q8, .inl (c8, 15, .inl (fun _ => 0))), (q9, .inl (c9, 40, .inl (fun _ => 0))), (q10, .inl (c10, 40, .inl (fun _ => 0))), (q11, .inl (c11, 15, .inl (fun _ => 0))), (q12, .inl (c12, 4, .inl (fun _ => 0))), (q13, .inl (c13, 4, .inl (fun _ => 0)))] := hD
  have hK : va_K D kcl [(c1, .int), (c2, .int), (c3, .int), (c4, .int), (c5, .int), (c6, .int), (c7, .int), (c8, .int), (c9, .int), (c10, .int), (c11, .int), (c12, .int), (c13, .int)] s := hK
  refine va_putF (D := D) (ci := 4) (v := .ref q13) (ty := .array .int) (C := R_M) (T := F_M) (N := 22) hx hb htw i_M t_M t_M_ok n_M hown hK hP hD hS 0 rfl rfl 21 (by decide) (htw _ mM_26) (fun _ h9 => h9) rfl hin rfl (by decide +kernel) rfl rfl (Nat.le_of_ble_eq_true rfl) d_M_init_114 (fun H locs hP hD hS => ?_)
  have hP : va_P D kcl [(h0, .inr (4, [.int 0, .int 2, .int 4, .int 0, .ref q1, .ref q2, .ref q3, .ref q4, .ref q5, .ref q6, .ref q7, .ref q8, .ref q9, .ref q10, .ref q11, .int 0, .int 0, .int 0, .int 0, .int 0, .ref q12, .ref q13])), (q1, .inl (c1, 10, .inl (fun _ => 0))), (q2, .inl (c2, 10, .inl (fun _ => 0))), (q3, .inl (c3, 10, .inl (fun _ => 0))), (q4, .inl (c4, 10, .inl (fun _ => 0))), (q5, .inl (c5, 300, .inl (fun _ => 0))), (q6, .inl (c6, 60, .inl (fun _ => 0))), (q7, .inl (c7, 15, .inl (fun _ => 0))), (q8, .inl (c8, 15, .inl (fun _ => 0))), (q9, .inl (c9, 40, .inl (fun _ => 0))), (q10, .inl (c10, 40, .inl (fun _ => 0))), (q11, .inl (c11, 15, .inl (fun _ => 0))), (q12, .inl (c12, 4, .inl (fun _ => 0))), (q13, .inl (c13, 4, .inl (fun _ => 0)))] H := hP
  have hD : va_D (va_A [(h0, .inr (4, [.int 0, .int 0, .int 0, .int 0, .null, .null, .null, .null, .null, .null, .null, .null, .null, .null, .null, .int 0, .int 0, .int 0, .int 0, .int 0, .null, .null]))] sz) [(h0, .inr (4, [.int 0, .int 2, .int 4, .int 0, .ref q1, .ref q2, .ref q3, .ref q4, .ref q5, .ref q6, .ref q7, .ref q8, .ref q9, .ref q10, .ref q11, .int 0, .int 0, .int 0, .int 0, .int 0, .ref q12, .ref q13])), (q1, .inl (c1, 10, .inl (fun _ => 0))), (q2, .inl (c2, 10, .inl (fun _ => 0))), (q3, .inl (c3, 10, .inl (fun _ => 0))), (q4, .inl (c4, 10, .inl (fun _ => 0))), (q5, .inl (c5, 300, .inl (fun _ => 0))), (q6, .inl (c6, 60, .inl (fun _ => 0))), (q7, .inl (c7, 15, .inl (fun _ => 0))), (q8, .inl (c8, 15, .inl (fun _ => 0))), (q9, .inl (c9, 40, .inl (fun _ => 0))), (q10, .inl (c10, 40, .inl (fun _ => 0))), (q11, .inl (c11, 15, .inl (fun _ => 0))), (q12, .inl (c12, 4, .inl (fun _ => 0))), (q13, .inl (c13, 4, .inl (fun _ => 0)))] := hD
  exact W.vret hx hb hr (fun t ht hW => ⟨⟨(fun k => [h0, q1, q2, q3, q4, q5, q6, q7, q8, q9, q10, q11, q12, q13].getD k 0, fun k => [0, c1, c2, c3, c4, c5, c6, c7, c8, c9, c10, c11, c12, c13].getD k 0), rfl, rfl, by rw [ht]; exact hP, va_K.moved hW.alike hK, hD⟩, hS.F ht⟩) hS.2.2 d_M_init_117
