def kb_ops (Inv : (Nat → Nat → Int32) → (Nat → Nat → Int32) → Prop) : Prop := op_piles Inv ∧ op_put Inv ∧ op_want Inv ∧ op_may Inv ∧ op_bound Inv ∧ op_run Inv ∧ op_proved Inv ∧ op_moves Inv ∧ op_move Inv ∧ op_replay Inv ∧ op_at Inv ∧ op_tidy Inv ∧ op_wagon Inv ∧ op_load Inv
theorem lw_step {k L : Nat} (hL : L ≤ 2048) (hk : k ≤ L) (h : ¬ Int32.ofNat L - 4 < nI k) : k + 4 ≤ L := by
  have e : (nI L - nI 4).toInt = (L : Int) - (4 : Nat) := pk_sub_toInt (by omega) (by omega)
  have h2 : ¬ (nI L - nI 4 < nI k) := h
  rw [Int32.lt_iff_toInt_lt, e, nI_toInt (by omega)] at h2
  omega
set_option maxHeartbeats 4000000 in
set_option maxRecDepth 100000 in
theorem law_loop {p : Program} {l : Launch} {e : Env} {s : State} {m : MethodId} {below : List Frame} {meth : Method} {c : Code} {D : va_G} {o : Nat} {cO : ClassId} {A : Nat → Nat} {G : Nat → ClassId} {B : Nat → Nat} {E : Nat → ClassId} {b L : Nat} {xs : Nat → Int32} (hL : L ≤ 2048) (hlt : l.stackTraces = false) (C0 : lw_At p s m meth c b L xs) (htt : ∀ w ∈ wsLaw, w.before #[Value.ref b] s = true) (hE : eH (fun q => s.heap.size ≤ q) s) {Inv : (Nat → Nat → Int32) → (Nat → Nat → Int32) → Prop} (hops : kb_ops Inv) :
    ∀ (n k0 : Nat) (x4 : Int32) (f : Nat → Int64) (M N : (Nat → Nat → Int32)) (H : Heap) (locs : List Loc) (ls : Array Slot), k0 ≤ L → L + 1 ≤ k0 + n → x4 = nI k0 → Inv M N → lwK D o cO A G B E s f M N H locs → lv_has ls 7 [(0, .ref b), (1, .ref (A 0)), (2, .ref (B 0)), (3, .ref o), (4, .int x4)] → W p l e room_1 s m #[Value.ref b] below meth c H locs (32 + k0) (741 + 6 * k0) (lw_Z below #[Value.ref b] s) (F0 m 23 ls []) := by
  obtain ⟨hx, hb, hr, hml, hown, hts, hX, hbl, hlocks, hgv⟩ := id C0
  have hbA : ¬ (fun q : Nat => s.heap.size ≤ q) b := Nat.not_le.mpr hbl
  obtain ⟨h_piles, h_put, h_want, h_may, h_bound, h_run, h_proved, h_moves, h_move, h_replay, h_at, h_tidy, h_wagon, h_load⟩ := hops
  intro n
  induction n with
  | zero =>
    intro k0 x4 f M N H locs ls h1 h2
    exact absurd h2 (by omega)
  | succ n ih =>
    intro k0 x4 f M N H locs ls hk0 hn hx4 hI hw hl
    refine lv_iload hx hb d_L_law_23 (lv_at hl 4 rfl) ?_
    refine lv_aload_n hx hb d_L_law_25 rfl (lv_at hl 0 rfl) ?_
    refine va_slen hx hb hX hbl hbA hw.2.2.2.1 d_L_law_26 ?_
    refine lv_iconst (v := 4) hx hb d_L_law_27 (by decide) ?_
    refine lv_isub hx hb d_L_law_28 ?_
    refine lv_icmp_gt (tgt := 889) hx hb d_L_law_29 (by decide) (fun c1 => ?_) (fun c1 => ?_)
    · refine lv_iconst (v := 1) hx hb d_L_law_889 (by decide) ?_
      refine va_forget (fun q hq => hw.2.2.2.1.2.2 q hq) ?_
      refine W.widen (k := 628987) (n := 7209143) (by omega) (by omega) ?_
      exact lw_ret hx hb hr hlocks d_L_law_890
    · have hk4 : k0 + 4 ≤ L := lw_step hL hk0 (by rw [hx4] at c1; exact c1)
      have next : ∀ (f : Nat → Int64) (M N : Nat → Nat → Int32) (H : Heap) (locs : List Loc) (ls : Array Slot), Inv M N → lwK D o cO A G B E s f M N H locs → lv_has ls 7 [(0, .ref b), (1, .ref (A 0)), (2, .ref (B 0)), (3, .ref o), (4, .int x4)] → W p l e room_1 s m #[Value.ref b] below meth c H locs (33 + k0) (747 + 6 * k0) (lw_Z below #[Value.ref b] s) (F0 m 883 ls []) := by
        intro f M N H locs ls hI hw hl
        refine lv_iinc (v := x4 + 4) (lv' := [(4, .int (x4 + 4)), (0, .ref b), (1, .ref (A 0)), (2, .ref (B 0)), (3, .ref o)]) hx hb d_L_law_883 hl (k := 4) rfl rfl (by decide) rfl (fun ls hl => ?_)
        refine lv_goto (tgt := 23) hx hb d_L_law_886 (by decide) ?_
        refine W.widen (k := 32 + (k0 + 4)) (n := 741 + 6 * (k0 + 4)) (by omega) (by omega) ?_
        exact ih (k0 + 4) (x4 + 4) f M N H locs ls hk4 (by omega) (by rw [hx4]; exact nI_add k0 4) hI hw (lv_sub hl [1, 2, 3, 4, 0] rfl)
      obtain ⟨hi0, hi1, hi2, hi3⟩ := lw_in hx4 hk4 hL
      refine lv_aload_n hx hb d_L_law_32 rfl (lv_at hl 0 rfl) ?_
      refine lv_iload hx hb d_L_law_33 (lv_at hl 4 rfl) ?_
      refine va_sld hx hb hX hbl hbA hw.2.2.2.1 hi0 d_L_law_35 ?_
      refine lv_bipush (v := 15) hx hb d_L_law_36 (by decide) ?_
      refine lv_iand hx hb d_L_law_38 ?_
      refine lv_topi (fun z ez => ?_)
      by_cases c_0 : z = (0 : Int32)
      · refine lv_tableIn (tgt := 108) (off := 69) hx hb d_L_law_39 (by rw [c_0]; decide) (by rw [c_0]; decide) (by rw [c_0]; rfl) (by decide) ?_
        exact lc_piles hL hlt C0 htt hE h_piles hk4 hx4 hI hw hl next
      by_cases c_1 : z = (1 : Int32)
      · refine lv_tableIn (tgt := 156) (off := 117) hx hb d_L_law_39 (by rw [c_1]; decide) (by rw [c_1]; decide) (by rw [c_1]; rfl) (by decide) ?_
        exact lc_put hL hlt C0 htt hE h_put hk4 hx4 hI hw hl next
      by_cases c_2 : z = (2 : Int32)
      · refine lv_tableIn (tgt := 236) (off := 197) hx hb d_L_law_39 (by rw [c_2]; decide) (by rw [c_2]; decide) (by rw [c_2]; rfl) (by decide) ?_
        exact lc_want hL hlt C0 htt hE h_want hk4 hx4 hI hw hl next
      by_cases c_3 : z = (3 : Int32)
      · refine lv_tableIn (tgt := 284) (off := 245) hx hb d_L_law_39 (by rw [c_3]; decide) (by rw [c_3]; decide) (by rw [c_3]; rfl) (by decide) ?_
        exact lc_may hL hlt C0 htt hE h_may hk4 hx4 hI hw hl next
      by_cases c_4 : z = (4 : Int32)
      · refine lv_tableIn (tgt := 359) (off := 320) hx hb d_L_law_39 (by rw [c_4]; decide) (by rw [c_4]; decide) (by rw [c_4]; rfl) (by decide) ?_
        exact lc_bound hL hlt C0 htt hE h_bound hk4 hx4 hI hw hl next
      by_cases c_5 : z = (5 : Int32)
      · refine lv_tableIn (tgt := 372) (off := 333) hx hb d_L_law_39 (by rw [c_5]; decide) (by rw [c_5]; decide) (by rw [c_5]; rfl) (by decide) ?_
        exact lc_run hL hlt C0 htt hE h_run hk4 hx4 hI hw hl next
      by_cases c_6 : z = (6 : Int32)
      · refine lv_tableIn (tgt := 428) (off := 389) hx hb d_L_law_39 (by rw [c_6]; decide) (by rw [c_6]; decide) (by rw [c_6]; rfl) (by decide) ?_
        exact lc_proved hL hlt C0 htt hE h_proved hk4 hx4 hI hw hl next
      by_cases c_7 : z = (7 : Int32)
      · refine lv_tableIn (tgt := 479) (off := 440) hx hb d_L_law_39 (by rw [c_7]; decide) (by rw [c_7]; decide) (by rw [c_7]; rfl) (by decide) ?_
        exact lc_moves hL hlt C0 htt hE h_moves hk4 hx4 hI hw hl next
      by_cases c_8 : z = (8 : Int32)
      · refine lv_tableIn (tgt := 523) (off := 484) hx hb d_L_law_39 (by rw [c_8]; decide) (by rw [c_8]; decide) (by rw [c_8]; rfl) (by decide) ?_
        exact lc_move hL hlt C0 htt hE h_move hk4 hx4 hI hw hl next
      by_cases c_9 : z = (9 : Int32)
      · refine lv_tableIn (tgt := 591) (off := 552) hx hb d_L_law_39 (by rw [c_9]; decide) (by rw [c_9]; decide) (by rw [c_9]; rfl) (by decide) ?_
        exact lc_replay hL hlt C0 htt hE h_replay hk4 hx4 hI hw hl next
      by_cases c_10 : z = (10 : Int32)
      · refine lv_tableIn (tgt := 647) (off := 608) hx hb d_L_law_39 (by rw [c_10]; decide) (by rw [c_10]; decide) (by rw [c_10]; rfl) (by decide) ?_
        exact lc_at hL hlt C0 htt hE h_at hk4 hx4 hI hw hl next
      by_cases c_11 : z = (11 : Int32)
      · refine lv_tableIn (tgt := 715) (off := 676) hx hb d_L_law_39 (by rw [c_11]; decide) (by rw [c_11]; decide) (by rw [c_11]; rfl) (by decide) ?_
        exact lc_tidy hL hlt C0 htt hE h_tidy hk4 hx4 hI hw hl next
      by_cases c_12 : z = (12 : Int32)
      · refine lv_tableIn (tgt := 771) (off := 732) hx hb d_L_law_39 (by rw [c_12]; decide) (by rw [c_12]; decide) (by rw [c_12]; rfl) (by decide) ?_
        exact lc_wagon hL hlt C0 htt hE h_wagon hk4 hx4 hI hw hl next
      by_cases c_13 : z = (13 : Int32)
      · refine lv_tableIn (tgt := 827) (off := 788) hx hb d_L_law_39 (by rw [c_13]; decide) (by rw [c_13]; decide) (by rw [c_13]; rfl) (by decide) ?_
        exact lc_load hL hlt C0 htt hE h_load hk4 hx4 hI hw hl next
      refine lv_tableOut (tgt := 883) hx hb d_L_law_39 (by have a0 := lv_neT c_0 (a := 0) rfl; have a1 := lv_neT c_1 (a := 1) rfl; have a2 := lv_neT c_2 (a := 2) rfl; have a3 := lv_neT c_3 (a := 3) rfl; have a4 := lv_neT c_4 (a := 4) rfl; have a5 := lv_neT c_5 (a := 5) rfl; have a6 := lv_neT c_6 (a := 6) rfl; have a7 := lv_neT c_7 (a := 7) rfl; have a8 := lv_neT c_8 (a := 8) rfl; have a9 := lv_neT c_9 (a := 9) rfl; have a10 := lv_neT c_10 (a := 10) rfl; have a11 := lv_neT c_11 (a := 11) rfl; have a12 := lv_neT c_12 (a := 12) rfl; have a13 := lv_neT c_13 (a := 13) rfl; omega) (by decide) ?_
      refine W.widen (k := 33 + k0) (n := 747 + 6 * k0) (by omega) (by omega) ?_
      exact next f M N H locs ls hI hw hl
theorem lw_env {s : State} {b : Nat} (hts : ∀ w ∈ lw_tbl, w.before #[Value.ref b] s = true) (hgv : (Jvm.Cond.and given_1 narrow_1).before #[Value.ref b] s = true) : eH (fun q => s.heap.size ≤ q) s := by
  have hs := flat_of_before _ hgv
  refine ⟨⟨⟨fun q hq => va_Nw.of rfl (hts _ (nfC_in q hq)), fun q hq => va_Nw.of rfl (hts _ (nmC_in q hq))⟩, fun w hw => va_Nw.of (bwC_ok w hw).1 (hts w (bwC_in w hw)), ?_, ?_, ?_⟩, ?_⟩
  · intro q hq
    have h1 := hts _ (stC_in q hq)
    have h2 : (Cond.exactly (.string q.1 q.2.1) "java/lang/String").before #[Value.ref b] s = true := hs _ (by
      revert q hq
      intro q hq _
      exact (show ∀ q ∈ stC, Cond.exactly (.string q.1 q.2.1) "java/lang/String" ∈ flatC (Jvm.Cond.and given_1 narrow_1) by decide +kernel) q hq)
    obtain ⟨a, _, _, _, ha, _⟩ := Cond.exactly_spec h2
    exact ⟨a, vk_R.of h1 ha⟩
  · exact vx_Zqof (hts (.laysStatic Bundle.tN "UNASSIGNED_STACK" Bundle.steD) (by decide +kernel)) (hts (.initialized Bundle.tN) (by decide +kernel)) (hs (.isRef (.static Bundle.tN "UNASSIGNED_STACK" Bundle.steD)) (by decide +kernel)) (fun a h => Nat.not_le.mpr h)
  · exact vx_Zqof (hts (.laysStatic Bundle.tN "SUPPRESSED_SENTINEL" Bundle.listD) (by decide +kernel)) (hts (.initialized Bundle.tN) (by decide +kernel)) (hs (.isRef (.static Bundle.tN "SUPPRESSED_SENTINEL" Bundle.listD)) (by decide +kernel)) (fun a h => Nat.not_le.mpr h)
  · exact ⟨va_Nc.of (hs _ (by decide +kernel)), va_Nc.of (hs _ (by decide +kernel)), va_Nc.of (hs _ (by decide +kernel)), va_Nc.of (hs _ (by decide +kernel)), va_Nc.of (hs _ (by decide +kernel)), va_Nc.of (hs _ (by decide +kernel))⟩
