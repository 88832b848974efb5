theorem kb_made {s : State} {H : Heap} {locs : List Loc} {D : va_G} {cl : List vw_C} {A0 : Nat → Prop} {tys tyc tys' : List (ClassId × FieldType)} {ws ws' wc wr w1 : va_W} {t : State} {H1 : Heap} {locs1 : List Loc} (hw : kb_K D cl tys ws s A0 H locs) (isC isR : List Nat) (hC : isC.map (fun i => ws[i]?) = wc.map some) (hR : isR.map (fun i => ws[i]?) = wr.map some) (hn : va_nd isR = true) (hdis : ∀ i ∈ isR, i ∉ isC) (hws : wr ++ w1 = ws') (hty : tys ++ tyc = tys')
    (ht : t.heap = H1) (hvm : s.vm.Alike t.vm) (hB : kb_post D cl tyc wc w1 H.size t) (hk : ∀ q : Nat, q < H.size → ¬ va_A wc H.size q → H1[q]? = H[q]?) (hS : va_S A0 s.heap H1 locs1) : kb_K D cl tys' ws' s A0 H1 locs1 := by
  have h := kb_behind hw isC isR hC hR hn hdis hws ht hB hk hS
  exact ⟨hty ▸ hw.1.app (va_K.moved hvm.symm hB.2.1), h.2⟩
def iC (MY MW : Nat → Nat → Int32) : Nat → Nat → Int32 := fun k => [kz 0, MY 0, kz 0, MW 0, MY 1, MY 2, MY 3, MY 4, MY 5, MY 6, MY 7, kz 1, kz 2, kz 3, MW 1, MW 2, MW 3].getD k (kz 0)
set_option maxHeartbeats 4000000 in
set_option maxRecDepth 100000 in
theorem ni_P (l : Launch) (D : va_G) (h0 sz : Nat) (MY MW : Nat → Nat → Int32) (hmY : f2_Y_clear 2 4 kz = some (0, MY)) (hmW : f2_W_clear kz = some (0, MW)) : Met l y_P_init (Cond.code y_P_init b_P_init 1 none :: wsC) { frames := 3, cells := 16, slots := 182, locals := 100 } (va_Pc [.ref h0] (kb_pre D kcl [] [(h0, .inr (0, [.null, .null, .null]))] nnC sz)) (va_Qv (fun u : (Nat → Nat) × (Nat → ClassId) => u.1 0 = h0) (fun u t => kb_post D kcl (tyC u.2) [(h0, .inr (0, [.null, .null, .null]))] (wC u.1 u.2 (iC MY MW)) sz t) (va_A [(h0, .inr (0, [.null, .null, .null]))] sz)) 16 182 (va_A [(h0, .inr (0, [.null, .null, .null]))] sz) := by
  refine Met.ofW (cc := b_P_init) (maxL := 1) (ret := none) (by decide) rfl ?_
  intro p e s m args below meth c s₁ B hml hv
  obtain ⟨rfl, hpre⟩ := hv
  obtain ⟨hw, hN⟩ := kb_enter hpre
  have hx := B.exec
  have hb := B.bytes
  have hr := B.returns
  have hts := atoms_spec (ws := (Cond.code y_P_init b_P_init 1 none :: wsC)) B.pre
  have htw : ∀ w ∈ wsC, w.before ([.ref h0] : List Value).toArray s = true := fun w h => hts w (List.mem_cons_of_mem _ h)
  have hown : s.vm.findClass "PileLifts" = some m.cls := findClass_of_methodNamed B.named
  have hlocks := B.notSynchronized
  have hin : meth.name = "<init>" := (name_of_methodNamed B.named B.method).1
  have hl := lv_entry ([.ref h0]) (n := 1) (Nat.le_of_ble_eq_true rfl)
  rw [lg_entry_eq]
  generalize (lg_sl ([.ref h0]) ++ List.replicate (1 - (lg_sl ([.ref h0])).length) Slot.unset).toArray = ls at hl ⊢
  have hl : lv_has ls 1 [(0, .ref h0)] := hl
  refine lv_aload_n hx hb d_P_init_0 rfl (lv_at hl 0 rfl) ?_
  refine W.objInit hx hb hown (htw _ mC_7) (htw _ mC_266) (htw _ mC_267) rfl (by rw [hml]; exact hl.1) rfl d_P_init_1 (Nat.le_of_ble_eq_true rfl) (Nat.le_of_ble_eq_true rfl) ?_
  refine W.eq (g2 := F0 m 4 ls []) rfl ?_
  refine lv_aload_n hx hb d_P_init_4 rfl (lv_at hl 0 rfl) ?_
  refine va_new (ci := 1) (fs := [.int 0, .int 0, .int 0, .null, .null, .null, .null, .null, .null, .null]) (C := R_Y) (T := F_Y) (N := 10) hx hb htw i_Y t_Y t_Y_ok hown (htw _ mC_8) (htw _ mC_9) (htw _ mC_1) hw.1 hw.2.1 hw.2.2.1 hw.2.2.2.1 hw.2.2.2.2 rfl (fun j hj => by rcases (show j = 0 ∨ j = 1 ∨ j = 2 ∨ j = 3 ∨ j = 4 ∨ j = 5 ∨ j = 6 ∨ j = 7 ∨ j = 8 ∨ j = 9 by omega) with rfl | rfl | rfl | rfl | rfl | rfl | rfl | rfl | rfl | rfl <;> rfl) (Nat.le_of_ble_eq_true rfl) (Nat.le_of_ble_eq_true rfl) d_P_init_5 (fun qn H hP hD hS => ?_)
  refine W.cs (cells' := 1) (slots' := 10) rfl rfl ?_
  have hw : kb_K D kcl [] (([(h0, .inr (0, [.null, .null, .null]))]) ++ [(qn, .inr (1, [.int 0, .int 0, .int 0, .null, .null, .null, .null, .null, .null, .null]))]) s (va_A [(h0, .inr (0, [.null, .null, .null]))] sz) H [] := ⟨hw.1, hP, hD, hS, hw.2.2.2.2⟩
  refine lv_dup hx hb d_P_init_8 rfl ?_
  have hC : [1].map (fun i => (([(h0, .inr (0, [.null, .null, .null]))]) ++ [(qn, .inr (1, [.int 0, .int 0, .int 0, .null, .null, .null, .null, .null, .null, .null]))])[i]?) = ([(qn, .inr (1, [.int 0, .int 0, .int 0, .null, .null, .null, .null, .null, .null, .null]))] : va_W).map some := rfl
  have hF := va_free (wc := [(qn, .inr (1, [.int 0, .int 0, .int 0, .null, .null, .null, .null, .null, .null, .null]))]) hw.2.2.1 hw.2.2.2.1 hw.2.2.2.2 [1] hC
  refine va_callv (va_runIN (As := []) (rest := [.ref qn, .ref h0]) ⟨hx, hb, hml, hown, htw⟩ (ni_Y l D qn H.size MY hmY) ⟨va_cnB 0 htw (wsC_self mC_11) rfl rfl rfl (nm_P_9 hN) (htw _ mC_1) q_Y_init ⟨by show 2 + 1 ≤ 3; omega, by show 8 + (1 + 11) + 60 ≤ 100; omega⟩, rfl, htw _ mC_10⟩ ⟨kb_blind nnC_same _ _, fun U hU hW => ⟨rfl, by rw [hU], by rw [hU]; exact hw.2.1.sub [1] rfl, va_K.moved hW.alike (hw.1.sub [] rfl), (hw.2.2.1.sub [1] (by decide) rfl).weaken (fun _ _ _ _ => trivial), nnC_warm s U hW hN⟩⟩ rfl rfl hl.1 rfl (lv_room (Nat.le_of_ble_eq_true rfl)) d_P_init_9 ⟨Nat.le_of_ble_eq_true rfl, Nat.le_of_ble_eq_true rfl⟩) hw.2.2.2.1 (fun q _ h => hF q h) hF (fun u t H1 locs1 ht hvm hp hB hz hk hS => ?_)
  refine W.cs (cells' := 8) (slots' := 84) rfl rfl ?_
  obtain ⟨A1, G1⟩ := u
  have hp : A1 0 = qn := hp
  subst hp
  have hw : kb_K D kcl ([] ++ tyY G1) ([(h0, .inr (0, [.null, .null, .null]))] ++ wY A1 G1 MY) s (va_A [(h0, .inr (0, [.null, .null, .null]))] sz) H1 locs1 := kb_made (wr := ([(h0, .inr (0, [.null, .null, .null]))])) hw [1] [0] hC rfl (by decide) (by decide) rfl rfl ht hvm hB hk hS
  generalize H1 = H at hw ⊢
  generalize locs1 = locs at hw ⊢
  refine va_putF (D := D) (ci := 0) (v := .ref (A1 0)) (ty := .object "PileLifts$Yard") (C := R_P) (T := F_P) (N := 3) hx hb htw i_P t_P t_P_ok n_P hown hw.1 hw.2.1 hw.2.2.1 hw.2.2.2.1 0 rfl rfl 0 (by decide) (htw _ mC_77) (fun _ h9 => h9) rfl hin rfl (by decide +kernel) rfl rfl (Nat.le_of_ble_eq_true rfl) d_P_init_12 (fun H locs hP hD hS => ?_)
  have hw : kb_K D kcl ([] ++ tyY G1) ([(h0, .inr (0, [.ref (A1 0), .null, .null]))] ++ wY A1 G1 MY) s (va_A [(h0, .inr (0, [.null, .null, .null]))] sz) H locs := ⟨hw.1, hP, hD, hS, hw.2.2.2.2⟩
  refine lv_aload_n hx hb d_P_init_15 rfl (lv_at hl 0 rfl) ?_
  refine va_new (ci := 2) (fs := [.int 0, .int 0, .int 0, .int 0, .int 0, .int 0, .int 0, .null, .null, .null]) (C := R_S) (T := F_S) (N := 10) hx hb htw i_S t_S t_S_ok hown (htw _ mC_36) (htw _ mC_37) (htw _ mC_2) hw.1 hw.2.1 hw.2.2.1 hw.2.2.2.1 hw.2.2.2.2 rfl (fun j hj => by rcases (show j = 0 ∨ j = 1 ∨ j = 2 ∨ j = 3 ∨ j = 4 ∨ j = 5 ∨ j = 6 ∨ j = 7 ∨ j = 8 ∨ j = 9 by omega) with rfl | rfl | rfl | rfl | rfl | rfl | rfl | rfl | rfl | rfl <;> rfl) (Nat.le_of_ble_eq_true rfl) (Nat.le_of_ble_eq_true rfl) d_P_init_16 (fun qn H hP hD hS => ?_)
  refine W.cs (cells' := 9) (slots' := 94) rfl rfl ?_
  have hw : kb_K D kcl ([] ++ tyY G1) (([(h0, .inr (0, [.ref (A1 0), .null, .null]))] ++ wY A1 G1 MY) ++ [(qn, .inr (2, [.int 0, .int 0, .int 0, .int 0, .int 0, .int 0, .int 0, .null, .null, .null]))]) s (va_A [(h0, .inr (0, [.null, .null, .null]))] sz) H locs := ⟨hw.1, hP, hD, hS, hw.2.2.2.2⟩
  refine lv_dup hx hb d_P_init_19 rfl ?_
  have hC : [9].map (fun i => (([(h0, .inr (0, [.ref (A1 0), .null, .null]))] ++ wY A1 G1 MY) ++ [(qn, .inr (2, [.int 0, .int 0, .int 0, .int 0, .int 0, .int 0, .int 0, .null, .null, .null]))])[i]?) = ([(qn, .inr (2, [.int 0, .int 0, .int 0, .int 0, .int 0, .int 0, .int 0, .null, .null, .null]))] : va_W).map some := rfl
  have hF := va_free (wc := [(qn, .inr (2, [.int 0, .int 0, .int 0, .int 0, .int 0, .int 0, .int 0, .null, .null, .null]))]) hw.2.2.1 hw.2.2.2.1 hw.2.2.2.2 [9] hC
  refine va_callv (va_runIN (As := []) (rest := [.ref qn, .ref h0]) ⟨hx, hb, hml, hown, htw⟩ (ni_S l D qn H.size) ⟨va_cnB 0 htw (wsC_self mC_39) rfl rfl rfl (nm_P_18 hN) (htw _ mC_2) q_S_init ⟨by show 2 + 1 ≤ 3; omega, by show 8 + (1 + 11) + 60 ≤ 100; omega⟩, rfl, htw _ mC_38⟩ ⟨kb_blind nnC_same _ _, fun U hU hW => ⟨rfl, by rw [hU], by rw [hU]; exact hw.2.1.sub [9] rfl, va_K.moved hW.alike (hw.1.sub [] rfl), (hw.2.2.1.sub [9] (by decide) rfl).weaken (fun _ _ _ _ => trivial), nnC_warm s U hW hN⟩⟩ rfl rfl hl.1 rfl (lv_room (Nat.le_of_ble_eq_true rfl)) d_P_init_20 ⟨Nat.le_of_ble_eq_true rfl, Nat.le_of_ble_eq_true rfl⟩) hw.2.2.2.1 (fun q _ h => hF q h) hF (fun u t H1 locs1 ht hvm hp hB hz hk hS => ?_)
  refine W.cs (cells' := 12) (slots' := 160) rfl rfl ?_
  obtain ⟨A2, G2⟩ := u
  have hp : A2 0 = qn := hp
  subst hp
  have hw : kb_K D kcl (([] ++ tyY G1) ++ tyS G2) ([(h0, .inr (0, [.ref (A1 0), .null, .null]))] ++ wY A1 G1 MY ++ wS A2 G2 kz) s (va_A [(h0, .inr (0, [.null, .null, .null]))] sz) H1 locs1 := kb_made (wr := ([(h0, .inr (0, [.ref (A1 0), .null, .null]))] ++ wY A1 G1 MY)) hw [9] [0, 1, 2, 3, 4, 5, 6, 7, 8] hC rfl (by decide) (by decide) rfl rfl ht hvm hB hk hS
  generalize H1 = H at hw ⊢
  generalize locs1 = locs at hw ⊢
  refine va_putF (D := D) (ci := 0) (v := .ref (A2 0)) (ty := .object "PileLifts$Search") (C := R_P) (T := F_P) (N := 3) hx hb htw i_P t_P t_P_ok n_P hown hw.1 hw.2.1 hw.2.2.1 hw.2.2.2.1 0 rfl rfl 1 (by decide) (htw _ mC_78) (fun _ h9 => h9) rfl hin rfl (by decide +kernel) rfl rfl (Nat.le_of_ble_eq_true rfl) d_P_init_23 (fun H locs hP hD hS => ?_)
  have hw : kb_K D kcl (([] ++ tyY G1) ++ tyS G2) ([(h0, .inr (0, [.ref (A1 0), .ref (A2 0), .null]))] ++ wY A1 G1 MY ++ wS A2 G2 kz) s (va_A [(h0, .inr (0, [.null, .null, .null]))] sz) H locs := ⟨hw.1, hP, hD, hS, hw.2.2.2.2⟩
  refine lv_aload_n hx hb d_P_init_26 rfl (lv_at hl 0 rfl) ?_
  refine va_new (ci := 3) (fs := [.int 0, .null, .null, .null]) (C := R_W) (T := F_W) (N := 4) hx hb htw i_W t_W t_W_ok hown (htw _ mC_61) (htw _ mC_62) (htw _ mC_3) hw.1 hw.2.1 hw.2.2.1 hw.2.2.2.1 hw.2.2.2.2 rfl (fun j hj => by rcases (show j = 0 ∨ j = 1 ∨ j = 2 ∨ j = 3 by omega) with rfl | rfl | rfl | rfl <;> rfl) (Nat.le_of_ble_eq_true rfl) (Nat.le_of_ble_eq_true rfl) d_P_init_27 (fun qn H hP hD hS => ?_)
  refine W.cs (cells' := 13) (slots' := 164) rfl rfl ?_
  have hw : kb_K D kcl (([] ++ tyY G1) ++ tyS G2) (([(h0, .inr (0, [.ref (A1 0), .ref (A2 0), .null]))] ++ wY A1 G1 MY ++ wS A2 G2 kz) ++ [(qn, .inr (3, [.int 0, .null, .null, .null]))]) s (va_A [(h0, .inr (0, [.null, .null, .null]))] sz) H locs := ⟨hw.1, hP, hD, hS, hw.2.2.2.2⟩
  refine lv_dup hx hb d_P_init_30 rfl ?_
  have hC : [13].map (fun i => (([(h0, .inr (0, [.ref (A1 0), .ref (A2 0), .null]))] ++ wY A1 G1 MY ++ wS A2 G2 kz) ++ [(qn, .inr (3, [.int 0, .null, .null, .null]))])[i]?) = ([(qn, .inr (3, [.int 0, .null, .null, .null]))] : va_W).map some := rfl
  have hF := va_free (wc := [(qn, .inr (3, [.int 0, .null, .null, .null]))]) hw.2.2.1 hw.2.2.2.1 hw.2.2.2.2 [13] hC
  refine va_callv (va_runIN (As := []) (rest := [.ref qn, .ref h0]) ⟨hx, hb, hml, hown, htw⟩ (ni_W l D qn H.size MW hmW) ⟨va_cnB 0 htw (wsC_self mC_64) rfl rfl rfl (nm_P_25 hN) (htw _ mC_3) q_W_init ⟨by show 2 + 1 ≤ 3; omega, by show 8 + (1 + 11) + 60 ≤ 100; omega⟩, rfl, htw _ mC_63⟩ ⟨kb_blind nnC_same _ _, fun U hU hW => ⟨rfl, by rw [hU], by rw [hU]; exact hw.2.1.sub [13] rfl, va_K.moved hW.alike (hw.1.sub [] rfl), (hw.2.2.1.sub [13] (by decide) rfl).weaken (fun _ _ _ _ => trivial), nnC_warm s U hW hN⟩⟩ rfl rfl hl.1 rfl (lv_room (Nat.le_of_ble_eq_true rfl)) d_P_init_31 ⟨Nat.le_of_ble_eq_true rfl, Nat.le_of_ble_eq_true rfl⟩) hw.2.2.2.1 (fun q _ h => hF q h) hF (fun u t H1 locs1 ht hvm hp hB hz hk hS => ?_)
  refine W.cs (cells' := 16) (slots' := 182) rfl rfl ?_
  obtain ⟨A3, G3⟩ := u
  have hp : A3 0 = qn := hp
  subst hp
  have hw : kb_K D kcl ((([] ++ tyY G1) ++ tyS G2) ++ tyW G3) ([(h0, .inr (0, [.ref (A1 0), .ref (A2 0), .null]))] ++ wY A1 G1 MY ++ wS A2 G2 kz ++ wW A3 G3 MW) s (va_A [(h0, .inr (0, [.null, .null, .null]))] sz) H1 locs1 := kb_made (wr := ([(h0, .inr (0, [.ref (A1 0), .ref (A2 0), .null]))] ++ wY A1 G1 MY ++ wS A2 G2 kz)) hw [13] [0, 1, 2, 3, 4, 5, 6, 7, 8, 9, 10, 11, 12] hC rfl (by decide) (by decide) rfl rfl ht hvm hB hk hS
  generalize H1 = H at hw ⊢
  generalize locs1 = locs at hw ⊢
  refine va_putF (D := D) (ci := 0) (v := .ref (A3 0)) (ty := .object "PileLifts$Wagons") (C := R_P) (T := F_P) (N := 3) hx hb htw i_P t_P t_P_ok n_P hown hw.1 hw.2.1 hw.2.2.1 hw.2.2.2.1 0 rfl rfl 2 (by decide) (htw _ mC_79) (fun _ h9 => h9) rfl hin rfl (by decide +kernel) rfl rfl (Nat.le_of_ble_eq_true rfl) d_P_init_34 (fun H locs hP hD hS => ?_)
  have hw : kb_K D kcl ((([] ++ tyY G1) ++ tyS G2) ++ tyW G3) ([(h0, .inr (0, [.ref (A1 0), .ref (A2 0), .ref (A3 0)]))] ++ wY A1 G1 MY ++ wS A2 G2 kz ++ wW A3 G3 MW) s (va_A [(h0, .inr (0, [.null, .null, .null]))] sz) H locs := ⟨hw.1, hP, hD, hS, hw.2.2.2.2⟩
  have hP9 : va_P D kcl (wC (fun k => [h0, A1 0, A2 0, A3 0, A1 1, A1 2, A1 3, A1 4, A1 5, A1 6, A1 7, A2 1, A2 2, A2 3, A3 1, A3 2, A3 3].getD k 0) (fun k => [0, 0, 0, 0, G1 1, G1 2, G1 3, G1 4, G1 5, G1 6, G1 7, G2 1, G2 2, G2 3, G3 1, G3 2, G3 3].getD k 0) (iC MY MW)) H := hw.2.1.sub [0, 1, 9, 13, 2, 3, 4, 5, 6, 7, 8, 10, 11, 12, 14, 15, 16] rfl
  have hD9 : va_D (va_A [(h0, .inr (0, [.null, .null, .null]))] sz) (wC (fun k => [h0, A1 0, A2 0, A3 0, A1 1, A1 2, A1 3, A1 4, A1 5, A1 6, A1 7, A2 1, A2 2, A2 3, A3 1, A3 2, A3 3].getD k 0) (fun k => [0, 0, 0, 0, G1 1, G1 2, G1 3, G1 4, G1 5, G1 6, G1 7, G2 1, G2 2, G2 3, G3 1, G3 2, G3 3].getD k 0) (iC MY MW)) := hw.2.2.1.sub [0, 1, 9, 13, 2, 3, 4, 5, 6, 7, 8, 10, 11, 12, 14, 15, 16] (by decide) rfl
  have hK9 : va_K D kcl (tyC (fun k => [0, 0, 0, 0, G1 1, G1 2, G1 3, G1 4, G1 5, G1 6, G1 7, G2 1, G2 2, G2 3, G3 1, G3 2, G3 3].getD k 0)) s := hw.1
  exact W.vret hx hb hr (fun t ht hW => ⟨⟨(fun k => [h0, A1 0, A2 0, A3 0, A1 1, A1 2, A1 3, A1 4, A1 5, A1 6, A1 7, A2 1, A2 2, A2 3, A3 1, A3 2, A3 3].getD k 0, fun k => [0, 0, 0, 0, G1 1, G1 2, G1 3, G1 4, G1 5, G1 6, G1 7, G2 1, G2 2, G2 3, G3 1, G3 2, G3 3].getD k 0), rfl, rfl, by rw [ht]; exact hP9, va_K.moved hW.alike hK9, hD9⟩, hw.2.2.2.1.F ht⟩) hw.2.2.2.1.2.2 d_P_init_37
