set_option maxHeartbeats 4000000 in
set_option maxRecDepth 100000 in
theorem whole_open {p : Program} {e : Env} {s : State} {m : MethodId} {below : List Frame} {meth : Method} {c : Code} (l : Launch) (hlt : l.stackTraces = false) {b L : Nat} {xs : Nat → Int32} (hL : L ≤ 2048) (C0 : lw_At p s m meth c b L xs) {Inv : (Nat → Nat → Int32) → (Nat → Nat → Int32) → Prop} (hops : kb_ops Inv) {MY MW : (Nat → Nat → Int32)} (hmY : f2_Y_clear 2 4 kz = some (0, MY)) (hmW : f2_W_clear kz = some (0, MW)) (hinit : Inv (iC MY MW) kzM) : W p l e room_1 s m #[Value.ref b] below meth c s.heap [] 0 0 (lw_Z below #[Value.ref b] s) (entryFrame m ([Value.ref b] : List Value).toArray 7) := by
  obtain ⟨hx, hb, hr, hml, hown0, hts, hX, hbl, hlocks, hgv⟩ := id C0
  have hown : s.vm.findClass "PileLiftsLaw" = some m.cls := hown0
  have htt : ∀ w ∈ wsLaw, w.before #[Value.ref b] s = true := fun w h => hts w (wsLaw_in w h)
  have hth : ∀ w ∈ wsH, w.before #[Value.ref b] s = true := fun w h => htt w (List.mem_append_left _ h)
  have htl : ∀ w ∈ wsL, w.before #[Value.ref b] s = true := fun w h => hth w (List.mem_append_left _ h)
  have htw : ∀ w ∈ wsC, w.before #[Value.ref b] s = true := fun w h => hth w (List.mem_append_right _ (List.mem_append_left _ h))
  have htm : ∀ w ∈ wsM, w.before #[Value.ref b] s = true := fun w h => htt w (List.mem_append_right _ h)
  have hE : eH (fun q => s.heap.size ≤ q) s := lw_env hts hgv
  have hN := hE.1.1
  have hA : ∀ q : Nat, s.heap.size ≤ q → (fun q : Nat => s.heap.size ≤ q) q := fun _ h => h
  obtain ⟨c0, iS0, hKn0⟩ := u_known (C := R_P) (T := F_P) (N := 3) (n := 3) htw i_P (htw _ mC_4)
  obtain ⟨c1, iS1, hKn1⟩ := u_known (C := R_Y) (T := F_Y) (N := 10) (n := 10) htw i_Y (htw _ mC_9)
  obtain ⟨c2, iS2, hKn2⟩ := u_known (C := R_S) (T := F_S) (N := 10) (n := 10) htw i_S (htw _ mC_37)
  obtain ⟨c3, iS3, hKn3⟩ := u_known (C := R_W) (T := F_W) (N := 4) (n := 4) htw i_W (htw _ mC_62)
  obtain ⟨c4, iS4, hKn4⟩ := u_known (C := R_M) (T := F_M) (N := 22) (n := 22) htm i_M (htm _ mM_1)
  obtain ⟨dC, dI, hKc⟩ : ∃ (dC : Nat → ClassId) (dI : Nat → Nat → Nat), ∀ (k : Nat) (q : vw_C), kcl[k]? = some q → u_Kn s q.1 q.2.1 q.2.2 (dC k) (dI k) := by
    refine ⟨fun k => [c0, c1, c2, c3, c4].getD k 0, fun k => [iS0, iS1, iS2, iS3, iS4].getD k (fun _ => 0), ?_⟩
    intro k q hq
    match k, hq with
    | 0, hq => cases hq; exact hKn0
    | 1, hq => cases hq; exact hKn1
    | 2, hq => cases hq; exact hKn2
    | 3, hq => cases hq; exact hKn3
    | 4, hq => cases hq; exact hKn4
    | k + 5, hq => simp [kcl] at hq
  have hw : kb_K (dC, dI) kcl [] [] s (fun q : Nat => s.heap.size ≤ q) s.heap [] := ⟨⟨hKc, fun k q h => by simp at h⟩, fun k q h => by simp at h, ⟨fun i j p q h => by simp at h, fun k q h => by simp at h⟩, va_S.rf, hA⟩
  have hl := lv_entry ([.ref b]) (n := 7) (Nat.le_of_ble_eq_true rfl)
  rw [lg_entry_eq]
  generalize (lg_sl ([.ref b]) ++ List.replicate (7 - (lg_sl ([.ref b])).length) Slot.unset).toArray = ls at hl ⊢
  have hl : lv_has ls 7 [(0, .ref b)] := hl
  refine va_new (ci := 0) (fs := [.null, .null, .null]) (C := R_P) (T := F_P) (N := 3) hx hb htw i_P t_P t_P_ok hown (htl _ mL_1) (htw _ mC_4) (htw _ mC_0) hw.1 hw.2.1 hw.2.2.1 hw.2.2.2.1 hw.2.2.2.2 rfl (fun j hj => by rcases (show j = 0 ∨ j = 1 ∨ j = 2 by omega) with rfl | rfl | rfl <;> rfl) (Nat.le_of_ble_eq_true rfl) (Nat.le_of_ble_eq_true rfl) d_L_law_0 (fun qn H hP hD hS => ?_)
  refine W.cs (cells' := 1) (slots' := 3) rfl rfl ?_
  have hw : kb_K (dC, dI) kcl [] ([] ++ [(qn, .inr (0, [.null, .null, .null]))]) s (fun q : Nat => s.heap.size ≤ q) H [] := ⟨hw.1, hP, hD, hS, hw.2.2.2.2⟩
  refine lv_dup hx hb d_L_law_3 rfl ?_
  have hC : [0].map (fun i => ([] ++ [(qn, .inr (0, [.null, .null, .null]))] : va_W)[i]?) = ([(qn, .inr (0, [.null, .null, .null]))] : va_W).map some := rfl
  have hF := va_free (wc := [(qn, .inr (0, [.null, .null, .null]))]) hw.2.2.1 hw.2.2.2.1 hw.2.2.2.2 [0] hC
  refine va_callv (va_runI (As := []) (rest := [.ref qn]) ⟨hx, hb, hml, hown, htt⟩ (ni_P l (dC, dI) qn H.size MY MW hmY hmW) ⟨callB_of 0 htt (wsLaw_C mC_6) rfl rfl rfl (htw _ mC_0) (htl _ mL_2) q_P_init ⟨by show 3 + 1 ≤ 2048; omega, by show 8 + (1 + 11) + 100 ≤ 84000; omega⟩, rfl, htw _ mC_5⟩ ⟨kb_blind nnC_same _ _, fun U hU hW => ⟨rfl, by rw [hU], by rw [hU]; exact hw.2.1.sub [0] rfl, va_K.moved hW.alike (hw.1.sub [] rfl), (hw.2.2.1.sub [0] (by decide) rfl).weaken (fun _ _ _ _ => trivial), nnC_warm s U hW hN⟩⟩ rfl rfl hl.1 rfl (lv_room (Nat.le_of_ble_eq_true rfl)) d_L_law_4 ⟨Nat.le_of_ble_eq_true rfl, Nat.le_of_ble_eq_true rfl⟩) hw.2.2.2.1 (fun q _ h => hF q h) hF (fun u t H1 locs1 ht hvm hp hB hz hk hS => ?_)
  refine W.cs (cells' := 17) (slots' := 185) rfl rfl ?_
  obtain ⟨A, G⟩ := u
  have hp : A 0 = qn := hp
  subst hp
  have hw : kb_K (dC, dI) kcl ([] ++ tyC G) ([] ++ wC A G (iC MY MW)) s (fun q : Nat => s.heap.size ≤ q) H1 locs1 := kb_made (wr := []) hw [0] [] hC rfl (by decide) (by decide) rfl rfl ht hvm hB hk hS
  generalize H1 = H at hw ⊢
  generalize locs1 = locs at hw ⊢
  refine lv_astore_n (lv' := [(1, .ref (A 0)), (0, .ref b)]) hx hb d_L_law_7 rfl hl (by decide) rfl (fun ls hl => ?_)
  refine va_new (ci := 4) (fs := [.int 0, .int 0, .int 0, .int 0, .null, .null, .null, .null, .null, .null, .null, .null, .null, .null, .null, .int 0, .int 0, .int 0, .int 0, .int 0, .null, .null]) (C := R_M) (T := F_M) (N := 22) hx hb htm i_M t_M t_M_ok hown (htl _ mL_60) (htm _ mM_1) (htm _ mM_0) hw.1 hw.2.1 hw.2.2.1 hw.2.2.2.1 hw.2.2.2.2 rfl (fun j hj => by rcases (show j = 0 ∨ j = 1 ∨ j = 2 ∨ j = 3 ∨ j = 4 ∨ j = 5 ∨ j = 6 ∨ j = 7 ∨ j = 8 ∨ j = 9 ∨ j = 10 ∨ j = 11 ∨ j = 12 ∨ j = 13 ∨ j = 14 ∨ j = 15 ∨ j = 16 ∨ j = 17 ∨ j = 18 ∨ j = 19 ∨ j = 20 ∨ j = 21 by omega) with rfl | rfl | rfl | rfl | rfl | rfl | rfl | rfl | rfl | rfl | rfl | rfl | rfl | rfl | rfl | rfl | rfl | rfl | rfl | rfl | rfl | rfl <;> rfl) (Nat.le_of_ble_eq_true rfl) (Nat.le_of_ble_eq_true rfl) d_L_law_8 (fun qn H hP hD hS => ?_)
  refine W.cs (cells' := 18) (slots' := 207) rfl rfl ?_
  have hw : kb_K (dC, dI) kcl ([] ++ tyC G) (([] ++ wC A G (iC MY MW)) ++ [(qn, .inr (4, [.int 0, .int 0, .int 0, .int 0, .null, .null, .null, .null, .null, .null, .null, .null, .null, .null, .null, .int 0, .int 0, .int 0, .int 0, .int 0, .null, .null]))]) s (fun q : Nat => s.heap.size ≤ q) H locs := ⟨hw.1, hP, hD, hS, hw.2.2.2.2⟩
  refine lv_dup hx hb d_L_law_11 rfl ?_
  have hC : [17].map (fun i => (([] ++ wC A G (iC MY MW)) ++ [(qn, .inr (4, [.int 0, .int 0, .int 0, .int 0, .null, .null, .null, .null, .null, .null, .null, .null, .null, .null, .null, .int 0, .int 0, .int 0, .int 0, .int 0, .null, .null]))] : va_W)[i]?) = ([(qn, .inr (4, [.int 0, .int 0, .int 0, .int 0, .null, .null, .null, .null, .null, .null, .null, .null, .null, .null, .null, .int 0, .int 0, .int 0, .int 0, .int 0, .null, .null]))] : va_W).map some := rfl
  have hF := va_free (wc := [(qn, .inr (4, [.int 0, .int 0, .int 0, .int 0, .null, .null, .null, .null, .null, .null, .null, .null, .null, .null, .null, .int 0, .int 0, .int 0, .int 0, .int 0, .null, .null]))]) hw.2.2.1 hw.2.2.2.1 hw.2.2.2.2 [17] hC
  refine va_callv (va_runI (As := []) (rest := [.ref qn]) ⟨hx, hb, hml, hown, htt⟩ (ni_M l (dC, dI) qn H.size) ⟨callB_of 0 htt (wsLaw_M mM_3) rfl rfl rfl (htm _ mM_0) (htl _ mL_61) q_M_init ⟨by show 2 + 1 ≤ 2048; omega, by show 8 + (1 + 11) + 60 ≤ 84000; omega⟩, rfl, htm _ mM_2⟩ ⟨kb_blind nnM_same _ _, fun U hU hW => ⟨rfl, by rw [hU], by rw [hU]; exact hw.2.1.sub [17] rfl, va_K.moved hW.alike (hw.1.sub [] rfl), (hw.2.2.1.sub [17] (by decide) rfl).weaken (fun _ _ _ _ => trivial), trivial⟩⟩ rfl rfl hl.1 rfl (lv_room (Nat.le_of_ble_eq_true rfl)) d_L_law_12 ⟨Nat.le_of_ble_eq_true rfl, Nat.le_of_ble_eq_true rfl⟩) hw.2.2.2.1 (fun q _ h => hF q h) hF (fun u t H1 locs1 ht hvm hp hB hz hk hS => ?_)
  refine W.cs (cells' := 31) (slots' := 740) rfl rfl ?_
  obtain ⟨B, E⟩ := u
  have hp : B 0 = qn := hp
  subst hp
  have hw : kb_K (dC, dI) kcl (([] ++ tyC G) ++ tyM E) (([] ++ wC A G (iC MY MW)) ++ wM B E kzM) s (fun q : Nat => s.heap.size ≤ q) H1 locs1 := kb_made (wr := ([] ++ wC A G (iC MY MW))) hw [17] [0, 1, 2, 3, 4, 5, 6, 7, 8, 9, 10, 11, 12, 13, 14, 15, 16] hC rfl (by decide) (by decide) rfl rfl ht hvm hB hk hS
  generalize H1 = H at hw ⊢
  generalize locs1 = locs at hw ⊢
  refine lv_astore_n (lv' := [(2, .ref (B 0)), (1, .ref (A 0)), (0, .ref b)]) hx hb d_L_law_15 rfl hl (by decide) rfl (fun ls hl => ?_)
  refine lv_iconst (v := 1) hx hb d_L_law_16 (by decide) ?_
  refine va_newa (atype := .long) (a0 := (1, .inr (.inl (fun _ => 0)))) (N' := 1) (ty := .long) hx hb (htl _ mL_77) rfl hw.1 hw.2.1 hw.2.2.1 hw.2.2.2.1 hw.2.2.2.2 (fun _ => rfl) (by decide) (by decide) (by decide) (Nat.le_of_ble_eq_true rfl) (Nat.le_of_ble_eq_true rfl) d_L_law_17 (fun o cO H hK hP hD hS => ?_)
  refine W.cs (cells' := 32 + 0) (slots' := 741 + 6 * 0) rfl rfl ?_
  have hw : lwK (dC, dI) o cO A G B E s (fun _ => 0) (iC MY MW) kzM H locs := ⟨hK.sub [13, 14, 15, 16, 17, 18, 19, 20, 21, 22, 23, 24, 25, 26, 0, 1, 2, 3, 4, 5, 6, 7, 8, 9, 10, 11, 12] rfl, hP.sub [17, 18, 19, 20, 21, 22, 23, 24, 25, 26, 27, 28, 29, 30, 31, 0, 1, 2, 3, 4, 5, 6, 7, 8, 9, 10, 11, 12, 13, 14, 15, 16] rfl, hD.sub [17, 18, 19, 20, 21, 22, 23, 24, 25, 26, 27, 28, 29, 30, 31, 0, 1, 2, 3, 4, 5, 6, 7, 8, 9, 10, 11, 12, 13, 14, 15, 16] (by decide) rfl, hS, hA⟩
  refine lv_astore_n (lv' := [(3, .ref o), (2, .ref (B 0)), (1, .ref (A 0)), (0, .ref b)]) hx hb d_L_law_19 rfl hl (by decide) rfl (fun ls hl => ?_)
  refine lv_iconst (v := 0) hx hb d_L_law_20 (by decide) ?_
  refine lv_istore (lv' := [(4, .int 0), (3, .ref o), (2, .ref (B 0)), (1, .ref (A 0)), (0, .ref b)]) hx hb d_L_law_21 hl (by decide) rfl (fun ls hl => ?_)
  exact law_loop hL hlt C0 htt hE hops (L + 1) 0 0 _ _ _ _ _ _ (Nat.zero_le L) (by omega) nI_0.symm hinit hw (lv_sub hl [4, 3, 2, 1, 0] rfl)
theorem kb_F5 : kb_F = 9999995 + 1 + 1 + 1 + 1 + 1 := rfl
theorem kb_F11 : kb_F = 9999989 + 1 + 1 + 1 + 1 + 1 + 1 + 1 + 1 + 1 + 1 + 1 := rfl
