set_option maxHeartbeats 4000000 in
set_option maxRecDepth 100000 in
theorem lawc_parted {p : Program} {e : Env} {s : State} {m : MethodId} {below : List Frame} {meth : Method} {c : Code} (l : Launch) {b : Nat} {xs : Nat → Int32} (C0 : lw_At p s m meth c b 6 xs) (dC : Nat → ClassId) (dI : Nat → Nat → Nat) (ad : Nat → Nat) (A : Nat → Prop) (hA : ∀ q : Nat, s.heap.size ≤ q → A q) (hA2 : ∀ q : Nat, A q → s.heap.size ≤ q) (hbA : ¬ A b) (x_x m_x o_q x_q1 x_q4 x_q10 x_q16 x_q17 x_q23 x_q27 x_q31 x_q32 x_q49 x_q51 x_q53 x_q78 x_q89 x_q96 m_q1 m_q3 m_q5 m_q7 m_q9 m_q11 m_q13 m_q15 m_q17 m_q19 m_q21 m_q23 m_q25 m_q27 m_q29 m_q31 : Nat) (x_y79 : ClassId) (H : Heap) (locs : List Loc) (ls : Array Slot) (hK : va_K (dC, dI) vwCl [(x_y79, .int)] s) (hP : va_P (dC, dI) vwCl [(x_x, .inr (10, [.ref x_q1, .ref x_q4, .ref x_q10, .ref x_q16, .ref x_q17, .ref x_q23, .ref x_q27, .ref x_q31, .ref x_q32, .ref x_q49, .ref x_q51, .ref x_q53, .ref x_q78, .ref x_q89, .ref x_q96, .int (-1), .int 0, .int (-1), .int (-1)])), (x_q78, .inl (x_y79, 8, .inl (upd (upd (upd (upd (upd (upd (upd (upd (fun _ => 0) 0 (-1)) 1 (-1)) 2 (-1)) 3 (-1)) 4 (-1)) 5 (-1)) 6 (-1)) 7 (-1)))), (m_x, .inr (11, [.int 0, .ref m_q1, .int 0, .int 0, .int 0, .int 0, .int 0, .int 0, .int 0, .int 0, .int 0, .int 0, .long 0, .int 0, .ref m_q3, .ref m_q5, .ref m_q7, .ref m_q9, .ref m_q11, .ref m_q13, .ref m_q15, .ref m_q17, .ref m_q19, .int 0, .int 0, .int 0, .int 0, .int (-1), .int (-1), .long 0, .long 0, .ref m_q21, .ref m_q23, .int 0, .int (-1), .int 0, .ref m_q25, .int 0, .ref m_q27, .ref m_q29, .int 0, .int 0, .ref m_q31, .int 0, .int 0, .int 0, .int 0]))] H) (hD : va_D A [(x_x, .inr (10, [.ref x_q1, .ref x_q4, .ref x_q10, .ref x_q16, .ref x_q17, .ref x_q23, .ref x_q27, .ref x_q31, .ref x_q32, .ref x_q49, .ref x_q51, .ref x_q53, .ref x_q78, .ref x_q89, .ref x_q96, .int (-1), .int 0, .int (-1), .int (-1)])), (x_q78, .inl (x_y79, 8, .inl (upd (upd (upd (upd (upd (upd (upd (upd (fun _ => 0) 0 (-1)) 1 (-1)) 2 (-1)) 3 (-1)) 4 (-1)) 5 (-1)) 6 (-1)) 7 (-1)))), (m_x, .inr (11, [.int 0, .ref m_q1, .int 0, .int 0, .int 0, .int 0, .int 0, .int 0, .int 0, .int 0, .int 0, .int 0, .long 0, .int 0, .ref m_q3, .ref m_q5, .ref m_q7, .ref m_q9, .ref m_q11, .ref m_q13, .ref m_q15, .ref m_q17, .ref m_q19, .int 0, .int 0, .int 0, .int 0, .int (-1), .int (-1), .long 0, .long 0, .ref m_q21, .ref m_q23, .int 0, .int (-1), .int 0, .ref m_q25, .int 0, .ref m_q27, .ref m_q29, .int 0, .int 0, .ref m_q31, .int 0, .int 0, .int 0, .int 0]))]) (hS : va_S A s.heap H locs) (hE : EV ad A s s.heap) (hl : lv_has ls 8 [(4, .int 0), (3, .ref o_q), (2, .ref m_x), (1, .ref x_x), (0, .ref b)]) : W p l e room_1 s m #[Value.ref b] below meth c H locs 314 7149 (lw_Z below #[Value.ref b] s) (F0 m 1088 ls []) := by
  obtain ⟨hx, hb, hr, hml, hown, hts0, hX, hbl, hlocks, hgv⟩ := id C0
  have hts : ∀ w ∈ lw_tbl, w.before #[Value.ref b] s = true := hts0
  have hv : xs 1 = 0 ∨ xs 1 = 1 ∨ xs 1 = 2 ∨ xs 1 = 3 ∨ xs 1 = 4 ∨ xs 1 = 5 ∨ xs 1 = 6 ∨ xs 1 = 7 ∨ (xs 1 < 0) ∨ (7 < xs 1) := by
    clear hP hD hK hS hE; simp only [Int32.lt_iff_toInt_lt, Int32.le_iff_toInt_le, ← Int32.toInt_inj, Int32.reduceToInt]; omega
  rcases hv with hv | hv | hv | hv | hv | hv | hv | hv | hv | hv
  · have x1 : xs 1 = 0 := hv
    refine lv_aload_n hx hb dL_law_1088 rfl (lv_at hl 3 rfl) ?_
    refine lv_aload_n hx hb dL_law_1089 rfl (lv_at hl 4 rfl) ?_
    refine lv_iload hx hb dL_law_1090 (lv_at hl 0 rfl) ?_
    refine lv_iconst (v := 1) hx hb dL_law_1092 (by decide) ?_
    refine lv_iadd hx hb dL_law_1093 ?_
    refine zz_top (v := 1) (by decide) ?_
    refine va_sld hx hb hX hbl hbA hS (i := 1) (zz_in (by decide)) dL_law_1094 ?_
    refine zz_top (v := 0) (x1) ?_
    have hPc := hP.sub (ws' := [(x_x, .inr (10, [.ref x_q1, .ref x_q4, .ref x_q10, .ref x_q16, .ref x_q17, .ref x_q23, .ref x_q27, .ref x_q31, .ref x_q32, .ref x_q49, .ref x_q51, .ref x_q53, .ref x_q78, .ref x_q89, .ref x_q96, .int (-1), .int 0, .int (-1), .int (-1)])), (x_q78, .inl (x_y79, 8, .inl (upd (upd (upd (upd (upd (upd (upd (upd (fun _ => 0) 0 (-1)) 1 (-1)) 2 (-1)) 3 (-1)) 4 (-1)) 5 (-1)) 6 (-1)) 7 (-1))))]) [0, 1] rfl
    have hDc := hD.sub (ws' := [(x_x, .inr (10, [.ref x_q1, .ref x_q4, .ref x_q10, .ref x_q16, .ref x_q17, .ref x_q23, .ref x_q27, .ref x_q31, .ref x_q32, .ref x_q49, .ref x_q51, .ref x_q53, .ref x_q78, .ref x_q89, .ref x_q96, .int (-1), .int 0, .int (-1), .int (-1)])), (x_q78, .inl (x_y79, 8, .inl (upd (upd (upd (upd (upd (upd (upd (upd (fun _ => 0) 0 (-1)) 1 (-1)) 2 (-1)) 3 (-1)) 4 (-1)) 5 (-1)) 6 (-1)) 7 (-1))))]) [0, 1] (by decide) rfl
    have hKc := hK.sub (tys' := [(x_y79, .int)]) [0] rfl
    have hFc := va_free (wc := [(x_x, .inr (10, [.ref x_q1, .ref x_q4, .ref x_q10, .ref x_q16, .ref x_q17, .ref x_q23, .ref x_q27, .ref x_q31, .ref x_q32, .ref x_q49, .ref x_q51, .ref x_q53, .ref x_q78, .ref x_q89, .ref x_q96, .int (-1), .int 0, .int (-1), .int (-1)])), (x_q78, .inl (x_y79, 8, .inl (upd (upd (upd (upd (upd (upd (upd (upd (fun _ => 0) 0 (-1)) 1 (-1)) 2 (-1)) 3 (-1)) 4 (-1)) 5 (-1)) 6 (-1)) 7 (-1))))]) hD hS hA [0, 1] rfl
    refine va_calli (va_runV (As := [.int 0]) (rest := []) ⟨hx, hb, hml, hown, hts⟩ (k_X11_parted l dC dI ad x_x x_q1 x_q4 x_q10 x_q16 x_q17 x_q23 x_q27 x_q31 x_q32 x_q49 x_q51 x_q53 x_q78 x_q89 x_q96 x_y79 H.size) (cwV 1 hts gT_X11_parted_131 rfl rfl rfl (by decide +kernel) ⟨Nat.le_of_ble_eq_true rfl, Nat.le_of_ble_eq_true rfl⟩) ⟨fun a U g mk q => ⟨q.1, CP.blind q.2⟩, va_recv hKc hPc (ci := 10) (q0 := 0) rfl rfl, fun U hU hW => ⟨rfl, CP.of hPc hKc hDc hE hS hFc hU hW⟩⟩ rfl rfl hl.1 rfl (lv_room (Nat.le_of_ble_eq_true rfl)) dL_law_1095 ⟨Nat.le_of_ble_eq_true rfl, Nat.le_of_ble_eq_true rfl⟩) hS (fun q _ h => hFc q h) hFc (fun r1 u t H1 locs ht hvm hw hB hz1 hk1 hS => ?_)
    obtain ⟨hP1, hK1, hD1⟩ := hB
    rw [ht] at hP1
    obtain ⟨hP, hD⟩ := va_join (wr := [(m_x, .inr (11, [.int 0, .ref m_q1, .int 0, .int 0, .int 0, .int 0, .int 0, .int 0, .int 0, .int 0, .int 0, .int 0, .long 0, .int 0, .ref m_q3, .ref m_q5, .ref m_q7, .ref m_q9, .ref m_q11, .ref m_q13, .ref m_q15, .ref m_q17, .ref m_q19, .int 0, .int 0, .int 0, .int 0, .int (-1), .int (-1), .long 0, .long 0, .ref m_q21, .ref m_q23, .int 0, .int (-1), .int 0, .ref m_q25, .int 0, .ref m_q27, .ref m_q29, .int 0, .int 0, .ref m_q31, .int 0, .int 0, .int 0, .int 0]))]) (w1 := []) hP hD [0, 1] [2] rfl rfl (by decide) (by decide) hk1 hFc hP1 hD1
    generalize H1 = H at hP hS ⊢
    clear hPc hDc hKc hFc hP1 hD1 hK1 hk1 hz1
    have hP : va_P (dC, dI) vwCl [(m_x, .inr (11, [.int 0, .ref m_q1, .int 0, .int 0, .int 0, .int 0, .int 0, .int 0, .int 0, .int 0, .int 0, .int 0, .long 0, .int 0, .ref m_q3, .ref m_q5, .ref m_q7, .ref m_q9, .ref m_q11, .ref m_q13, .ref m_q15, .ref m_q17, .ref m_q19, .int 0, .int 0, .int 0, .int 0, .int (-1), .int (-1), .long 0, .long 0, .ref m_q21, .ref m_q23, .int 0, .int (-1), .int 0, .ref m_q25, .int 0, .ref m_q27, .ref m_q29, .int 0, .int 0, .ref m_q31, .int 0, .int 0, .int 0, .int 0]))] H := hP
    have hD : va_D A [(m_x, .inr (11, [.int 0, .ref m_q1, .int 0, .int 0, .int 0, .int 0, .int 0, .int 0, .int 0, .int 0, .int 0, .int 0, .long 0, .int 0, .ref m_q3, .ref m_q5, .ref m_q7, .ref m_q9, .ref m_q11, .ref m_q13, .ref m_q15, .ref m_q17, .ref m_q19, .int 0, .int 0, .int 0, .int 0, .int (-1), .int (-1), .long 0, .long 0, .ref m_q21, .ref m_q23, .int 0, .int (-1), .int 0, .ref m_q25, .int 0, .ref m_q27, .ref m_q29, .int 0, .int 0, .ref m_q31, .int 0, .int 0, .int 0, .int 0]))] := hD
    refine zz_top (v := (-1)) hw ?_
    refine lv_aload_n hx hb dL_law_1098 rfl (lv_at hl 2 rfl) ?_
    refine lv_aload_n hx hb dL_law_1099 rfl (lv_at hl 4 rfl) ?_
    refine lv_iload hx hb dL_law_1100 (lv_at hl 0 rfl) ?_
    refine lv_iconst (v := 1) hx hb dL_law_1102 (by decide) ?_
    refine lv_iadd hx hb dL_law_1103 ?_
    refine zz_top (v := 1) (by decide) ?_
    refine va_sld hx hb hX hbl hbA hS (i := 1) (zz_in (by decide)) dL_law_1104 ?_
    refine zz_top (v := 0) (x1) ?_
    have hPc := hP.sub (ws' := [(m_x, .inr (11, [.int 0, .ref m_q1, .int 0, .int 0, .int 0, .int 0, .int 0, .int 0, .int 0, .int 0, .int 0, .int 0, .long 0, .int 0, .ref m_q3, .ref m_q5, .ref m_q7, .ref m_q9, .ref m_q11, .ref m_q13, .ref m_q15, .ref m_q17, .ref m_q19, .int 0, .int 0, .int 0, .int 0, .int (-1), .int (-1), .long 0, .long 0, .ref m_q21, .ref m_q23, .int 0, .int (-1), .int 0, .ref m_q25, .int 0, .ref m_q27, .ref m_q29, .int 0, .int 0, .ref m_q31, .int 0, .int 0, .int 0, .int 0]))]) [0] rfl
    have hDc := hD.sub (ws' := [(m_x, .inr (11, [.int 0, .ref m_q1, .int 0, .int 0, .int 0, .int 0, .int 0, .int 0, .int 0, .int 0, .int 0, .int 0, .long 0, .int 0, .ref m_q3, .ref m_q5, .ref m_q7, .ref m_q9, .ref m_q11, .ref m_q13, .ref m_q15, .ref m_q17, .ref m_q19, .int 0, .int 0, .int 0, .int 0, .int (-1), .int (-1), .long 0, .long 0, .ref m_q21, .ref m_q23, .int 0, .int (-1), .int 0, .ref m_q25, .int 0, .ref m_q27, .ref m_q29, .int 0, .int 0, .ref m_q31, .int 0, .int 0, .int 0, .int 0]))]) [0] (by decide) rfl
    have hKc := hK.sub (tys' := []) [] rfl
    have hFc := va_free (wc := [(m_x, .inr (11, [.int 0, .ref m_q1, .int 0, .int 0, .int 0, .int 0, .int 0, .int 0, .int 0, .int 0, .int 0, .int 0, .long 0, .int 0, .ref m_q3, .ref m_q5, .ref m_q7, .ref m_q9, .ref m_q11, .ref m_q13, .ref m_q15, .ref m_q17, .ref m_q19, .int 0, .int 0, .int 0, .int 0, .int (-1), .int (-1), .long 0, .long 0, .ref m_q21, .ref m_q23, .int 0, .int (-1), .int 0, .ref m_q25, .int 0, .ref m_q27, .ref m_q29, .int 0, .int 0, .ref m_q31, .int 0, .int 0, .int 0, .int 0]))]) hD hS hA [0] rfl
    refine va_calli (va_runV (As := [.int 0]) (rest := [.int (-1)]) ⟨hx, hb, hml, hown, hts⟩ (k_X12_parted l dC dI ad m_x m_q1 m_q3 m_q5 m_q7 m_q9 m_q11 m_q13 m_q15 m_q17 m_q19 m_q21 m_q23 m_q25 m_q27 m_q29 m_q31 H.size) (cwV 1 hts gT_X12_parted_134 rfl rfl rfl (by decide +kernel) ⟨Nat.le_of_ble_eq_true rfl, Nat.le_of_ble_eq_true rfl⟩) ⟨fun a U g mk q => ⟨q.1, CP.blind q.2⟩, va_recv hKc hPc (ci := 11) (q0 := 0) rfl rfl, fun U hU hW => ⟨rfl, CP.of hPc hKc hDc hE hS hFc hU hW⟩⟩ rfl rfl hl.1 rfl (lv_room (Nat.le_of_ble_eq_true rfl)) dL_law_1105 ⟨Nat.le_of_ble_eq_true rfl, Nat.le_of_ble_eq_true rfl⟩) hS (fun q _ h => hFc q h) hFc (fun r2 u t H1 locs ht hvm hw hB hz1 hk1 hS => ?_)
    obtain ⟨hP1, hK1, hD1⟩ := hB
    rw [ht] at hP1
    obtain ⟨hP, hD⟩ := va_join (wr := []) (w1 := []) hP hD [0] [] rfl rfl (by decide) (by decide) hk1 hFc hP1 hD1
    generalize H1 = H at hP hS ⊢
    clear hPc hDc hKc hFc hP1 hD1 hK1 hk1 hz1
    have hP : va_P (dC, dI) vwCl [] H := hP
    have hD : va_D A [] := hD
    refine zz_top (v := (-1)) hw ?_
    refine lv_icmp_eq (tgt := 1476) hx hb dL_law_1108 (by decide) (fun _ => ?_) (fun c3 => absurd (by decide) c3)
    exact law_end l C0 hA2 hbA hS hl (Nat.le_of_ble_eq_true rfl) (Nat.le_of_ble_eq_true rfl)
  · have x1 : xs 1 = 1 := hv
    refine lv_aload_n hx hb dL_law_1088 rfl (lv_at hl 3 rfl) ?_
    refine lv_aload_n hx hb dL_law_1089 rfl (lv_at hl 4 rfl) ?_
    refine lv_iload hx hb dL_law_1090 (lv_at hl 0 rfl) ?_
    refine lv_iconst (v := 1) hx hb dL_law_1092 (by decide) ?_
    refine lv_iadd hx hb dL_law_1093 ?_
    refine zz_top (v := 1) (by decide) ?_
    refine va_sld hx hb hX hbl hbA hS (i := 1) (zz_in (by decide)) dL_law_1094 ?_
    refine zz_top (v := 1) (x1) ?_
    have hPc := hP.sub (ws' := [(x_x, .inr (10, [.ref x_q1, .ref x_q4, .ref x_q10, .ref x_q16, .ref x_q17, .ref x_q23, .ref x_q27, .ref x_q31, .ref x_q32, .ref x_q49, .ref x_q51, .ref x_q53, .ref x_q78, .ref x_q89, .ref x_q96, .int (-1), .int 0, .int (-1), .int (-1)])), (x_q78, .inl (x_y79, 8, .inl (upd (upd (upd (upd (upd (upd (upd (upd (fun _ => 0) 0 (-1)) 1 (-1)) 2 (-1)) 3 (-1)) 4 (-1)) 5 (-1)) 6 (-1)) 7 (-1))))]) [0, 1] rfl
    have hDc := hD.sub (ws' := [(x_x, .inr (10, [.ref x_q1, .ref x_q4, .ref x_q10, .ref x_q16, .ref x_q17, .ref x_q23, .ref x_q27, .ref x_q31, .ref x_q32, .ref x_q49, .ref x_q51, .ref x_q53, .ref x_q78, .ref x_q89, .ref x_q96, .int (-1), .int 0, .int (-1), .int (-1)])), (x_q78, .inl (x_y79, 8, .inl (upd (upd (upd (upd (upd (upd (upd (upd (fun _ => 0) 0 (-1)) 1 (-1)) 2 (-1)) 3 (-1)) 4 (-1)) 5 (-1)) 6 (-1)) 7 (-1))))]) [0, 1] (by decide) rfl
    have hKc := hK.sub (tys' := [(x_y79, .int)]) [0] rfl
    have hFc := va_free (wc := [(x_x, .inr (10, [.ref x_q1, .ref x_q4, .ref x_q10, .ref x_q16, .ref x_q17, .ref x_q23, .ref x_q27, .ref x_q31, .ref x_q32, .ref x_q49, .ref x_q51, .ref x_q53, .ref x_q78, .ref x_q89, .ref x_q96, .int (-1), .int 0, .int (-1), .int (-1)])), (x_q78, .inl (x_y79, 8, .inl (upd (upd (upd (upd (upd (upd (upd (upd (fun _ => 0) 0 (-1)) 1 (-1)) 2 (-1)) 3 (-1)) 4 (-1)) 5 (-1)) 6 (-1)) 7 (-1))))]) hD hS hA [0, 1] rfl
    refine va_calli (va_runV (As := [.int 1]) (rest := []) ⟨hx, hb, hml, hown, hts⟩ (k_X11_parted_1 l dC dI ad x_x x_q1 x_q4 x_q10 x_q16 x_q17 x_q23 x_q27 x_q31 x_q32 x_q49 x_q51 x_q53 x_q78 x_q89 x_q96 x_y79 H.size) (cwV 1 hts gT_X11_parted_131 rfl rfl rfl (by decide +kernel) ⟨Nat.le_of_ble_eq_true rfl, Nat.le_of_ble_eq_true rfl⟩) ⟨fun a U g mk q => ⟨q.1, CP.blind q.2⟩, va_recv hKc hPc (ci := 10) (q0 := 0) rfl rfl, fun U hU hW => ⟨rfl, CP.of hPc hKc hDc hE hS hFc hU hW⟩⟩ rfl rfl hl.1 rfl (lv_room (Nat.le_of_ble_eq_true rfl)) dL_law_1095 ⟨Nat.le_of_ble_eq_true rfl, Nat.le_of_ble_eq_true rfl⟩) hS (fun q _ h => hFc q h) hFc (fun r1 u t H1 locs ht hvm hw hB hz1 hk1 hS => ?_)
    obtain ⟨hP1, hK1, hD1⟩ := hB
    rw [ht] at hP1
    obtain ⟨hP, hD⟩ := va_join (wr := [(m_x, .inr (11, [.int 0, .ref m_q1, .int 0, .int 0, .int 0, .int 0, .int 0, .int 0, .int 0, .int 0, .int 0, .int 0, .long 0, .int 0, .ref m_q3, .ref m_q5, .ref m_q7, .ref m_q9, .ref m_q11, .ref m_q13, .ref m_q15, .ref m_q17, .ref m_q19, .int 0, .int 0, .int 0, .int 0, .int (-1), .int (-1), .long 0, .long 0, .ref m_q21, .ref m_q23, .int 0, .int (-1), .int 0, .ref m_q25, .int 0, .ref m_q27, .ref m_q29, .int 0, .int 0, .ref m_q31, .int 0, .int 0, .int 0, .int 0]))]) (w1 := []) hP hD [0, 1] [2] rfl rfl (by decide) (by decide) hk1 hFc hP1 hD1
    generalize H1 = H at hP hS ⊢
    clear hPc hDc hKc hFc hP1 hD1 hK1 hk1 hz1
    have hP : va_P (dC, dI) vwCl [(m_x, .inr (11, [.int 0, .ref m_q1, .int 0, .int 0, .int 0, .int 0, .int 0, .int 0, .int 0, .int 0, .int 0, .int 0, .long 0, .int 0, .ref m_q3, .ref m_q5, .ref m_q7, .ref m_q9, .ref m_q11, .ref m_q13, .ref m_q15, .ref m_q17, .ref m_q19, .int 0, .int 0, .int 0, .int 0, .int (-1), .int (-1), .long 0, .long 0, .ref m_q21, .ref m_q23, .int 0, .int (-1), .int 0, .ref m_q25, .int 0, .ref m_q27, .ref m_q29, .int 0, .int 0, .ref m_q31, .int 0, .int 0, .int 0, .int 0]))] H := hP
    have hD : va_D A [(m_x, .inr (11, [.int 0, .ref m_q1, .int 0, .int 0, .int 0, .int 0, .int 0, .int 0, .int 0, .int 0, .int 0, .int 0, .long 0, .int 0, .ref m_q3, .ref m_q5, .ref m_q7, .ref m_q9, .ref m_q11, .ref m_q13, .ref m_q15, .ref m_q17, .ref m_q19, .int 0, .int 0, .int 0, .int 0, .int (-1), .int (-1), .long 0, .long 0, .ref m_q21, .ref m_q23, .int 0, .int (-1), .int 0, .ref m_q25, .int 0, .ref m_q27, .ref m_q29, .int 0, .int 0, .ref m_q31, .int 0, .int 0, .int 0, .int 0]))] := hD
    refine zz_top (v := (-1)) hw ?_
    refine lv_aload_n hx hb dL_law_1098 rfl (lv_at hl 2 rfl) ?_
    refine lv_aload_n hx hb dL_law_1099 rfl (lv_at hl 4 rfl) ?_
    refine lv_iload hx hb dL_law_1100 (lv_at hl 0 rfl) ?_
    refine lv_iconst (v := 1) hx hb dL_law_1102 (by decide) ?_
    refine lv_iadd hx hb dL_law_1103 ?_
    refine zz_top (v := 1) (by decide) ?_
    refine va_sld hx hb hX hbl hbA hS (i := 1) (zz_in (by decide)) dL_law_1104 ?_
    refine zz_top (v := 1) (x1) ?_
    have hPc := hP.sub (ws' := [(m_x, .inr (11, [.int 0, .ref m_q1, .int 0, .int 0, .int 0, .int 0, .int 0, .int 0, .int 0, .int 0, .int 0, .int 0, .long 0, .int 0, .ref m_q3, .ref m_q5, .ref m_q7, .ref m_q9, .ref m_q11, .ref m_q13, .ref m_q15, .ref m_q17, .ref m_q19, .int 0, .int 0, .int 0, .int 0, .int (-1), .int (-1), .long 0, .long 0, .ref m_q21, .ref m_q23, .int 0, .int (-1), .int 0, .ref m_q25, .int 0, .ref m_q27, .ref m_q29, .int 0, .int 0, .ref m_q31, .int 0, .int 0, .int 0, .int 0]))]) [0] rfl
    have hDc := hD.sub (ws' := [(m_x, .inr (11, [.int 0, .ref m_q1, .int 0, .int 0, .int 0, .int 0, .int 0, .int 0, .int 0, .int 0, .int 0, .int 0, .long 0, .int 0, .ref m_q3, .ref m_q5, .ref m_q7, .ref m_q9, .ref m_q11, .ref m_q13, .ref m_q15, .ref m_q17, .ref m_q19, .int 0, .int 0, .int 0, .int 0, .int (-1), .int (-1), .long 0, .long 0, .ref m_q21, .ref m_q23, .int 0, .int (-1), .int 0, .ref m_q25, .int 0, .ref m_q27, .ref m_q29, .int 0, .int 0, .ref m_q31, .int 0, .int 0, .int 0, .int 0]))]) [0] (by decide) rfl
    have hKc := hK.sub (tys' := []) [] rfl
    have hFc := va_free (wc := [(m_x, .inr (11, [.int 0, .ref m_q1, .int 0, .int 0, .int 0, .int 0, .int 0, .int 0, .int 0, .int 0, .int 0, .int 0, .long 0, .int 0, .ref m_q3, .ref m_q5, .ref m_q7, .ref m_q9, .ref m_q11, .ref m_q13, .ref m_q15, .ref m_q17, .ref m_q19, .int 0, .int 0, .int 0, .int 0, .int (-1), .int (-1), .long 0, .long 0, .ref m_q21, .ref m_q23, .int 0, .int (-1), .int 0, .ref m_q25, .int 0, .ref m_q27, .ref m_q29, .int 0, .int 0, .ref m_q31, .int 0, .int 0, .int 0, .int 0]))]) hD hS hA [0] rfl
    refine va_calli (va_runV (As := [.int 1]) (rest := [.int (-1)]) ⟨hx, hb, hml, hown, hts⟩ (k_X12_parted_1 l dC dI ad m_x m_q1 m_q3 m_q5 m_q7 m_q9 m_q11 m_q13 m_q15 m_q17 m_q19 m_q21 m_q23 m_q25 m_q27 m_q29 m_q31 H.size) (cwV 1 hts gT_X12_parted_134 rfl rfl rfl (by decide +kernel) ⟨Nat.le_of_ble_eq_true rfl, Nat.le_of_ble_eq_true rfl⟩) ⟨fun a U g mk q => ⟨q.1, CP.blind q.2⟩, va_recv hKc hPc (ci := 11) (q0 := 0) rfl rfl, fun U hU hW => ⟨rfl, CP.of hPc hKc hDc hE hS hFc hU hW⟩⟩ rfl rfl hl.1 rfl (lv_room (Nat.le_of_ble_eq_true rfl)) dL_law_1105 ⟨Nat.le_of_ble_eq_true rfl, Nat.le_of_ble_eq_true rfl⟩) hS (fun q _ h => hFc q h) hFc (fun r2 u t H1 locs ht hvm hw hB hz1 hk1 hS => ?_)
    obtain ⟨hP1, hK1, hD1⟩ := hB
    rw [ht] at hP1
    obtain ⟨hP, hD⟩ := va_join (wr := []) (w1 := []) hP hD [0] [] rfl rfl (by decide) (by decide) hk1 hFc hP1 hD1
    generalize H1 = H at hP hS ⊢
    clear hPc hDc hKc hFc hP1 hD1 hK1 hk1 hz1
    have hP : va_P (dC, dI) vwCl [] H := hP
    have hD : va_D A [] := hD
    refine zz_top (v := (-1)) hw ?_
    refine lv_icmp_eq (tgt := 1476) hx hb dL_law_1108 (by decide) (fun _ => ?_) (fun c3 => absurd (by decide) c3)
    exact law_end l C0 hA2 hbA hS hl (Nat.le_of_ble_eq_true rfl) (Nat.le_of_ble_eq_true rfl)
  · have x1 : xs 1 = 2 := hv
    refine lv_aload_n hx hb dL_law_1088 rfl (lv_at hl 3 rfl) ?_
    refine lv_aload_n hx hb dL_law_1089 rfl (lv_at hl 4 rfl) ?_
    refine lv_iload hx hb dL_law_1090 (lv_at hl 0 rfl) ?_
    refine lv_iconst (v := 1) hx hb dL_law_1092 (by decide) ?_
    refine lv_iadd hx hb dL_law_1093 ?_
    refine zz_top (v := 1) (by decide) ?_
    refine va_sld hx hb hX hbl hbA hS (i := 1) (zz_in (by decide)) dL_law_1094 ?_
    refine zz_top (v := 2) (x1) ?_
    have hPc := hP.sub (ws' := [(x_x, .inr (10, [.ref x_q1, .ref x_q4, .ref x_q10, .ref x_q16, .ref x_q17, .ref x_q23, .ref x_q27, .ref x_q31, .ref x_q32, .ref x_q49, .ref x_q51, .ref x_q53, .ref x_q78, .ref x_q89, .ref x_q96, .int (-1), .int 0, .int (-1), .int (-1)])), (x_q78, .inl (x_y79, 8, .inl (upd (upd (upd (upd (upd (upd (upd (upd (fun _ => 0) 0 (-1)) 1 (-1)) 2 (-1)) 3 (-1)) 4 (-1)) 5 (-1)) 6 (-1)) 7 (-1))))]) [0, 1] rfl
    have hDc := hD.sub (ws' := [(x_x, .inr (10, [.ref x_q1, .ref x_q4, .ref x_q10, .ref x_q16, .ref x_q17, .ref x_q23, .ref x_q27, .ref x_q31, .ref x_q32, .ref x_q49, .ref x_q51, .ref x_q53, .ref x_q78, .ref x_q89, .ref x_q96, .int (-1), .int 0, .int (-1), .int (-1)])), (x_q78, .inl (x_y79, 8, .inl (upd (upd (upd (upd (upd (upd (upd (upd (fun _ => 0) 0 (-1)) 1 (-1)) 2 (-1)) 3 (-1)) 4 (-1)) 5 (-1)) 6 (-1)) 7 (-1))))]) [0, 1] (by decide) rfl
    have hKc := hK.sub (tys' := [(x_y79, .int)]) [0] rfl
    have hFc := va_free (wc := [(x_x, .inr (10, [.ref x_q1, .ref x_q4, .ref x_q10, .ref x_q16, .ref x_q17, .ref x_q23, .ref x_q27, .ref x_q31, .ref x_q32, .ref x_q49, .ref x_q51, .ref x_q53, .ref x_q78, .ref x_q89, .ref x_q96, .int (-1), .int 0, .int (-1), .int (-1)])), (x_q78, .inl (x_y79, 8, .inl (upd (upd (upd (upd (upd (upd (upd (upd (fun _ => 0) 0 (-1)) 1 (-1)) 2 (-1)) 3 (-1)) 4 (-1)) 5 (-1)) 6 (-1)) 7 (-1))))]) hD hS hA [0, 1] rfl
    refine va_calli (va_runV (As := [.int 2]) (rest := []) ⟨hx, hb, hml, hown, hts⟩ (k_X11_parted_2 l dC dI ad x_x x_q1 x_q4 x_q10 x_q16 x_q17 x_q23 x_q27 x_q31 x_q32 x_q49 x_q51 x_q53 x_q78 x_q89 x_q96 x_y79 H.size) (cwV 1 hts gT_X11_parted_131 rfl rfl rfl (by decide +kernel) ⟨Nat.le_of_ble_eq_true rfl, Nat.le_of_ble_eq_true rfl⟩) ⟨fun a U g mk q => ⟨q.1, CP.blind q.2⟩, va_recv hKc hPc (ci := 10) (q0 := 0) rfl rfl, fun U hU hW => ⟨rfl, CP.of hPc hKc hDc hE hS hFc hU hW⟩⟩ rfl rfl hl.1 rfl (lv_room (Nat.le_of_ble_eq_true rfl)) dL_law_1095 ⟨Nat.le_of_ble_eq_true rfl, Nat.le_of_ble_eq_true rfl⟩) hS (fun q _ h => hFc q h) hFc (fun r1 u t H1 locs ht hvm hw hB hz1 hk1 hS => ?_)
    obtain ⟨hP1, hK1, hD1⟩ := hB
    rw [ht] at hP1
    obtain ⟨hP, hD⟩ := va_join (wr := [(m_x, .inr (11, [.int 0, .ref m_q1, .int 0, .int 0, .int 0, .int 0, .int 0, .int 0, .int 0, .int 0, .int 0, .int 0, .long 0, .int 0, .ref m_q3, .ref m_q5, .ref m_q7, .ref m_q9, .ref m_q11, .ref m_q13, .ref m_q15, .ref m_q17, .ref m_q19, .int 0, .int 0, .int 0, .int 0, .int (-1), .int (-1), .long 0, .long 0, .ref m_q21, .ref m_q23, .int 0, .int (-1), .int 0, .ref m_q25, .int 0, .ref m_q27, .ref m_q29, .int 0, .int 0, .ref m_q31, .int 0, .int 0, .int 0, .int 0]))]) (w1 := []) hP hD [0, 1] [2] rfl rfl (by decide) (by decide) hk1 hFc hP1 hD1
    generalize H1 = H at hP hS ⊢
    clear hPc hDc hKc hFc hP1 hD1 hK1 hk1 hz1
    have hP : va_P (dC, dI) vwCl [(m_x, .inr (11, [.int 0, .ref m_q1, .int 0, .int 0, .int 0, .int 0, .int 0, .int 0, .int 0, .int 0, .int 0, .int 0, .long 0, .int 0, .ref m_q3, .ref m_q5, .ref m_q7, .ref m_q9, .ref m_q11, .ref m_q13, .ref m_q15, .ref m_q17, .ref m_q19, .int 0, .int 0, .int 0, .int 0, .int (-1), .int (-1), .long 0, .long 0, .ref m_q21, .ref m_q23, .int 0, .int (-1), .int 0, .ref m_q25, .int 0, .ref m_q27, .ref m_q29, .int 0, .int 0, .ref m_q31, .int 0, .int 0, .int 0, .int 0]))] H := hP
    have hD : va_D A [(m_x, .inr (11, [.int 0, .ref m_q1, .int 0, .int 0, .int 0, .int 0, .int 0, .int 0, .int 0, .int 0, .int 0, .int 0, .long 0, .int 0, .ref m_q3, .ref m_q5, .ref m_q7, .ref m_q9, .ref m_q11, .ref m_q13, .ref m_q15, .ref m_q17, .ref m_q19, .int 0, .int 0, .int 0, .int 0, .int (-1), .int (-1), .long 0, .long 0, .ref m_q21, .ref m_q23, .int 0, .int (-1), .int 0, .ref m_q25, .int 0, .ref m_q27, .ref m_q29, .int 0, .int 0, .ref m_q31, .int 0, .int 0, .int 0, .int 0]))] := hD
    refine zz_top (v := (-1)) hw ?_
    refine lv_aload_n hx hb dL_law_1098 rfl (lv_at hl 2 rfl) ?_
    refine lv_aload_n hx hb dL_law_1099 rfl (lv_at hl 4 rfl) ?_
    refine lv_iload hx hb dL_law_1100 (lv_at hl 0 rfl) ?_
    refine lv_iconst (v := 1) hx hb dL_law_1102 (by decide) ?_
    refine lv_iadd hx hb dL_law_1103 ?_
    refine zz_top (v := 1) (by decide) ?_
    refine va_sld hx hb hX hbl hbA hS (i := 1) (zz_in (by decide)) dL_law_1104 ?_
    refine zz_top (v := 2) (x1) ?_
    have hPc := hP.sub (ws' := [(m_x, .inr (11, [.int 0, .ref m_q1, .int 0, .int 0, .int 0, .int 0, .int 0, .int 0, .int 0, .int 0, .int 0, .int 0, .long 0, .int 0, .ref m_q3, .ref m_q5, .ref m_q7, .ref m_q9, .ref m_q11, .ref m_q13, .ref m_q15, .ref m_q17, .ref m_q19, .int 0, .int 0, .int 0, .int 0, .int (-1), .int (-1), .long 0, .long 0, .ref m_q21, .ref m_q23, .int 0, .int (-1), .int 0, .ref m_q25, .int 0, .ref m_q27, .ref m_q29, .int 0, .int 0, .ref m_q31, .int 0, .int 0, .int 0, .int 0]))]) [0] rfl
    have hDc := hD.sub (ws' := [(m_x, .inr (11, [.int 0, .ref m_q1, .int 0, .int 0, .int 0, .int 0, .int 0, .int 0, .int 0, .int 0, .int 0, .int 0, .long 0, .int 0, .ref m_q3, .ref m_q5, .ref m_q7, .ref m_q9, .ref m_q11, .ref m_q13, .ref m_q15, .ref m_q17, .ref m_q19, .int 0, .int 0, .int 0, .int 0, .int (-1), .int (-1), .long 0, .long 0, .ref m_q21, .ref m_q23, .int 0, .int (-1), .int 0, .ref m_q25, .int 0, .ref m_q27, .ref m_q29, .int 0, .int 0, .ref m_q31, .int 0, .int 0, .int 0, .int 0]))]) [0] (by decide) rfl
    have hKc := hK.sub (tys' := []) [] rfl
    have hFc := va_free (wc := [(m_x, .inr (11, [.int 0, .ref m_q1, .int 0, .int 0, .int 0, .int 0, .int 0, .int 0, .int 0, .int 0, .int 0, .int 0, .long 0, .int 0, .ref m_q3, .ref m_q5, .ref m_q7, .ref m_q9, .ref m_q11, .ref m_q13, .ref m_q15, .ref m_q17, .ref m_q19, .int 0, .int 0, .int 0, .int 0, .int (-1), .int (-1), .long 0, .long 0, .ref m_q21, .ref m_q23, .int 0, .int (-1), .int 0, .ref m_q25, .int 0, .ref m_q27, .ref m_q29, .int 0, .int 0, .ref m_q31, .int 0, .int 0, .int 0, .int 0]))]) hD hS hA [0] rfl
    refine va_calli (va_runV (As := [.int 2]) (rest := [.int (-1)]) ⟨hx, hb, hml, hown, hts⟩ (k_X12_parted_2 l dC dI ad m_x m_q1 m_q3 m_q5 m_q7 m_q9 m_q11 m_q13 m_q15 m_q17 m_q19 m_q21 m_q23 m_q25 m_q27 m_q29 m_q31 H.size) (cwV 1 hts gT_X12_parted_134 rfl rfl rfl (by decide +kernel) ⟨Nat.le_of_ble_eq_true rfl, Nat.le_of_ble_eq_true rfl⟩) ⟨fun a U g mk q => ⟨q.1, CP.blind q.2⟩, va_recv hKc hPc (ci := 11) (q0 := 0) rfl rfl, fun U hU hW => ⟨rfl, CP.of hPc hKc hDc hE hS hFc hU hW⟩⟩ rfl rfl hl.1 rfl (lv_room (Nat.le_of_ble_eq_true rfl)) dL_law_1105 ⟨Nat.le_of_ble_eq_true rfl, Nat.le_of_ble_eq_true rfl⟩) hS (fun q _ h => hFc q h) hFc (fun r2 u t H1 locs ht hvm hw hB hz1 hk1 hS => ?_)
    obtain ⟨hP1, hK1, hD1⟩ := hB
    rw [ht] at hP1
    obtain ⟨hP, hD⟩ := va_join (wr := []) (w1 := []) hP hD [0] [] rfl rfl (by decide) (by decide) hk1 hFc hP1 hD1
    generalize H1 = H at hP hS ⊢
    clear hPc hDc hKc hFc hP1 hD1 hK1 hk1 hz1
    have hP : va_P (dC, dI) vwCl [] H := hP
    have hD : va_D A [] := hD
    refine zz_top (v := (-1)) hw ?_
    refine lv_icmp_eq (tgt := 1476) hx hb dL_law_1108 (by decide) (fun _ => ?_) (fun c3 => absurd (by decide) c3)
    exact law_end l C0 hA2 hbA hS hl (Nat.le_of_ble_eq_true rfl) (Nat.le_of_ble_eq_true rfl)
  · have x1 : xs 1 = 3 := hv
    refine lv_aload_n hx hb dL_law_1088 rfl (lv_at hl 3 rfl) ?_
    refine lv_aload_n hx hb dL_law_1089 rfl (lv_at hl 4 rfl) ?_
    refine lv_iload hx hb dL_law_1090 (lv_at hl 0 rfl) ?_
    refine lv_iconst (v := 1) hx hb dL_law_1092 (by decide) ?_
    refine lv_iadd hx hb dL_law_1093 ?_
    refine zz_top (v := 1) (by decide) ?_
    refine va_sld hx hb hX hbl hbA hS (i := 1) (zz_in (by decide)) dL_law_1094 ?_
    refine zz_top (v := 3) (x1) ?_
    have hPc := hP.sub (ws' := [(x_x, .inr (10, [.ref x_q1, .ref x_q4, .ref x_q10, .ref x_q16, .ref x_q17, .ref x_q23, .ref x_q27, .ref x_q31, .ref x_q32, .ref x_q49, .ref x_q51, .ref x_q53, .ref x_q78, .ref x_q89, .ref x_q96, .int (-1), .int 0, .int (-1), .int (-1)])), (x_q78, .inl (x_y79, 8, .inl (upd (upd (upd (upd (upd (upd (upd (upd (fun _ => 0) 0 (-1)) 1 (-1)) 2 (-1)) 3 (-1)) 4 (-1)) 5 (-1)) 6 (-1)) 7 (-1))))]) [0, 1] rfl
    have hDc := hD.sub (ws' := [(x_x, .inr (10, [.ref x_q1, .ref x_q4, .ref x_q10, .ref x_q16, .ref x_q17, .ref x_q23, .ref x_q27, .ref x_q31, .ref x_q32, .ref x_q49, .ref x_q51, .ref x_q53, .ref x_q78, .ref x_q89, .ref x_q96, .int (-1), .int 0, .int (-1), .int (-1)])), (x_q78, .inl (x_y79, 8, .inl (upd (upd (upd (upd (upd (upd (upd (upd (fun _ => 0) 0 (-1)) 1 (-1)) 2 (-1)) 3 (-1)) 4 (-1)) 5 (-1)) 6 (-1)) 7 (-1))))]) [0, 1] (by decide) rfl
    have hKc := hK.sub (tys' := [(x_y79, .int)]) [0] rfl
    have hFc := va_free (wc := [(x_x, .inr (10, [.ref x_q1, .ref x_q4, .ref x_q10, .ref x_q16, .ref x_q17, .ref x_q23, .ref x_q27, .ref x_q31, .ref x_q32, .ref x_q49, .ref x_q51, .ref x_q53, .ref x_q78, .ref x_q89, .ref x_q96, .int (-1), .int 0, .int (-1), .int (-1)])), (x_q78, .inl (x_y79, 8, .inl (upd (upd (upd (upd (upd (upd (upd (upd (fun _ => 0) 0 (-1)) 1 (-1)) 2 (-1)) 3 (-1)) 4 (-1)) 5 (-1)) 6 (-1)) 7 (-1))))]) hD hS hA [0, 1] rfl
    refine va_calli (va_runV (As := [.int 3]) (rest := []) ⟨hx, hb, hml, hown, hts⟩ (k_X11_parted_3 l dC dI ad x_x x_q1 x_q4 x_q10 x_q16 x_q17 x_q23 x_q27 x_q31 x_q32 x_q49 x_q51 x_q53 x_q78 x_q89 x_q96 x_y79 H.size) (cwV 1 hts gT_X11_parted_131 rfl rfl rfl (by decide +kernel) ⟨Nat.le_of_ble_eq_true rfl, Nat.le_of_ble_eq_true rfl⟩) ⟨fun a U g mk q => ⟨q.1, CP.blind q.2⟩, va_recv hKc hPc (ci := 10) (q0 := 0) rfl rfl, fun U hU hW => ⟨rfl, CP.of hPc hKc hDc hE hS hFc hU hW⟩⟩ rfl rfl hl.1 rfl (lv_room (Nat.le_of_ble_eq_true rfl)) dL_law_1095 ⟨Nat.le_of_ble_eq_true rfl, Nat.le_of_ble_eq_true rfl⟩) hS (fun q _ h => hFc q h) hFc (fun r1 u t H1 locs ht hvm hw hB hz1 hk1 hS => ?_)
    obtain ⟨hP1, hK1, hD1⟩ := hB
    rw [ht] at hP1
    obtain ⟨hP, hD⟩ := va_join (wr := [(m_x, .inr (11, [.int 0, .ref m_q1, .int 0, .int 0, .int 0, .int 0, .int 0, .int 0, .int 0, .int 0, .int 0, .int 0, .long 0, .int 0, .ref m_q3, .ref m_q5, .ref m_q7, .ref m_q9, .ref m_q11, .ref m_q13, .ref m_q15, .ref m_q17, .ref m_q19, .int 0, .int 0, .int 0, .int 0, .int (-1), .int (-1), .long 0, .long 0, .ref m_q21, .ref m_q23, .int 0, .int (-1), .int 0, .ref m_q25, .int 0, .ref m_q27, .ref m_q29, .int 0, .int 0, .ref m_q31, .int 0, .int 0, .int 0, .int 0]))]) (w1 := []) hP hD [0, 1] [2] rfl rfl (by decide) (by decide) hk1 hFc hP1 hD1
    generalize H1 = H at hP hS ⊢
    clear hPc hDc hKc hFc hP1 hD1 hK1 hk1 hz1
    have hP : va_P (dC, dI) vwCl [(m_x, .inr (11, [.int 0, .ref m_q1, .int 0, .int 0, .int 0, .int 0, .int 0, .int 0, .int 0, .int 0, .int 0, .int 0, .long 0, .int 0, .ref m_q3, .ref m_q5, .ref m_q7, .ref m_q9, .ref m_q11, .ref m_q13, .ref m_q15, .ref m_q17, .ref m_q19, .int 0, .int 0, .int 0, .int 0, .int (-1), .int (-1), .long 0, .long 0, .ref m_q21, .ref m_q23, .int 0, .int (-1), .int 0, .ref m_q25, .int 0, .ref m_q27, .ref m_q29, .int 0, .int 0, .ref m_q31, .int 0, .int 0, .int 0, .int 0]))] H := hP
    have hD : va_D A [(m_x, .inr (11, [.int 0, .ref m_q1, .int 0, .int 0, .int 0, .int 0, .int 0, .int 0, .int 0, .int 0, .int 0, .int 0, .long 0, .int 0, .ref m_q3, .ref m_q5, .ref m_q7, .ref m_q9, .ref m_q11, .ref m_q13, .ref m_q15, .ref m_q17, .ref m_q19, .int 0, .int 0, .int 0, .int 0, .int (-1), .int (-1), .long 0, .long 0, .ref m_q21, .ref m_q23, .int 0, .int (-1), .int 0, .ref m_q25, .int 0, .ref m_q27, .ref m_q29, .int 0, .int 0, .ref m_q31, .int 0, .int 0, .int 0, .int 0]))] := hD
    refine zz_top (v := (-1)) hw ?_
    refine lv_aload_n hx hb dL_law_1098 rfl (lv_at hl 2 rfl) ?_
    refine lv_aload_n hx hb dL_law_1099 rfl (lv_at hl 4 rfl) ?_
    refine lv_iload hx hb dL_law_1100 (lv_at hl 0 rfl) ?_
    refine lv_iconst (v := 1) hx hb dL_law_1102 (by decide) ?_
    refine lv_iadd hx hb dL_law_1103 ?_
    refine zz_top (v := 1) (by decide) ?_
    refine va_sld hx hb hX hbl hbA hS (i := 1) (zz_in (by decide)) dL_law_1104 ?_
    refine zz_top (v := 3) (x1) ?_
    have hPc := hP.sub (ws' := [(m_x, .inr (11, [.int 0, .ref m_q1, .int 0, .int 0, .int 0, .int 0, .int 0, .int 0, .int 0, .int 0, .int 0, .int 0, .long 0, .int 0, .ref m_q3, .ref m_q5, .ref m_q7, .ref m_q9, .ref m_q11, .ref m_q13, .ref m_q15, .ref m_q17, .ref m_q19, .int 0, .int 0, .int 0, .int 0, .int (-1), .int (-1), .long 0, .long 0, .ref m_q21, .ref m_q23, .int 0, .int (-1), .int 0, .ref m_q25, .int 0, .ref m_q27, .ref m_q29, .int 0, .int 0, .ref m_q31, .int 0, .int 0, .int 0, .int 0]))]) [0] rfl
    have hDc := hD.sub (ws' := [(m_x, .inr (11, [.int 0, .ref m_q1, .int 0, .int 0, .int 0, .int 0, .int 0, .int 0, .int 0, .int 0, .int 0, .int 0, .long 0, .int 0, .ref m_q3, .ref m_q5, .ref m_q7, .ref m_q9, .ref m_q11, .ref m_q13, .ref m_q15, .ref m_q17, .ref m_q19, .int 0, .int 0, .int 0, .int 0, .int (-1), .int (-1), .long 0, .long 0, .ref m_q21, .ref m_q23, .int 0, .int (-1), .int 0, .ref m_q25, .int 0, .ref m_q27, .ref m_q29, .int 0, .int 0, .ref m_q31, .int 0, .int 0, .int 0, .int 0]))]) [0] (by decide) rfl
    have hKc := hK.sub (tys' := []) [] rfl
    have hFc := va_free (wc := [(m_x, .inr (11, [.int 0, .ref m_q1, .int 0, .int 0, .int 0, .int 0, .int 0, .int 0, .int 0, .int 0, .int 0, .int 0, .long 0, .int 0, .ref m_q3, .ref m_q5, .ref m_q7, .ref m_q9, .ref m_q11, .ref m_q13, .ref m_q15, .ref m_q17, .ref m_q19, .int 0, .int 0, .int 0, .int 0, .int (-1), .int (-1), .long 0, .long 0, .ref m_q21, .ref m_q23, .int 0, .int (-1), .int 0, .ref m_q25, .int 0, .ref m_q27, .ref m_q29, .int 0, .int 0, .ref m_q31, .int 0, .int 0, .int 0, .int 0]))]) hD hS hA [0] rfl
    refine va_calli (va_runV (As := [.int 3]) (rest := [.int (-1)]) ⟨hx, hb, hml, hown, hts⟩ (k_X12_parted_3 l dC dI ad m_x m_q1 m_q3 m_q5 m_q7 m_q9 m_q11 m_q13 m_q15 m_q17 m_q19 m_q21 m_q23 m_q25 m_q27 m_q29 m_q31 H.size) (cwV 1 hts gT_X12_parted_134 rfl rfl rfl (by decide +kernel) ⟨Nat.le_of_ble_eq_true rfl, Nat.le_of_ble_eq_true rfl⟩) ⟨fun a U g mk q => ⟨q.1, CP.blind q.2⟩, va_recv hKc hPc (ci := 11) (q0 := 0) rfl rfl, fun U hU hW => ⟨rfl, CP.of hPc hKc hDc hE hS hFc hU hW⟩⟩ rfl rfl hl.1 rfl (lv_room (Nat.le_of_ble_eq_true rfl)) dL_law_1105 ⟨Nat.le_of_ble_eq_true rfl, Nat.le_of_ble_eq_true rfl⟩) hS (fun q _ h => hFc q h) hFc (fun r2 u t H1 locs ht hvm hw hB hz1 hk1 hS => ?_)
    obtain ⟨hP1, hK1, hD1⟩ := hB
    rw [ht] at hP1
    obtain ⟨hP, hD⟩ := va_join (wr := []) (w1 := []) hP hD [0] [] rfl rfl (by decide) (by decide) hk1 hFc hP1 hD1
    generalize H1 = H at hP hS ⊢
    clear hPc hDc hKc hFc hP1 hD1 hK1 hk1 hz1
    have hP : va_P (dC, dI) vwCl [] H := hP
    have hD : va_D A [] := hD
    refine zz_top (v := (-1)) hw ?_
    refine lv_icmp_eq (tgt := 1476) hx hb dL_law_1108 (by decide) (fun _ => ?_) (fun c3 => absurd (by decide) c3)
    exact law_end l C0 hA2 hbA hS hl (Nat.le_of_ble_eq_true rfl) (Nat.le_of_ble_eq_true rfl)
  · have x1 : xs 1 = 4 := hv
    refine lv_aload_n hx hb dL_law_1088 rfl (lv_at hl 3 rfl) ?_
    refine lv_aload_n hx hb dL_law_1089 rfl (lv_at hl 4 rfl) ?_
    refine lv_iload hx hb dL_law_1090 (lv_at hl 0 rfl) ?_
    refine lv_iconst (v := 1) hx hb dL_law_1092 (by decide) ?_
    refine lv_iadd hx hb dL_law_1093 ?_
    refine zz_top (v := 1) (by decide) ?_
    refine va_sld hx hb hX hbl hbA hS (i := 1) (zz_in (by decide)) dL_law_1094 ?_
    refine zz_top (v := 4) (x1) ?_
    have hPc := hP.sub (ws' := [(x_x, .inr (10, [.ref x_q1, .ref x_q4, .ref x_q10, .ref x_q16, .ref x_q17, .ref x_q23, .ref x_q27, .ref x_q31, .ref x_q32, .ref x_q49, .ref x_q51, .ref x_q53, .ref x_q78, .ref x_q89, .ref x_q96, .int (-1), .int 0, .int (-1), .int (-1)])), (x_q78, .inl (x_y79, 8, .inl (upd (upd (upd (upd (upd (upd (upd (upd (fun _ => 0) 0 (-1)) 1 (-1)) 2 (-1)) 3 (-1)) 4 (-1)) 5 (-1)) 6 (-1)) 7 (-1))))]) [0, 1] rfl
    have hDc := hD.sub (ws' := [(x_x, .inr (10, [.ref x_q1, .ref x_q4, .ref x_q10, .ref x_q16, .ref x_q17, .ref x_q23, .ref x_q27, .ref x_q31, .ref x_q32, .ref x_q49, .ref x_q51, .ref x_q53, .ref x_q78, .ref x_q89, .ref x_q96, .int (-1), .int 0, .int (-1), .int (-1)])), (x_q78, .inl (x_y79, 8, .inl (upd (upd (upd (upd (upd (upd (upd (upd (fun _ => 0) 0 (-1)) 1 (-1)) 2 (-1)) 3 (-1)) 4 (-1)) 5 (-1)) 6 (-1)) 7 (-1))))]) [0, 1] (by decide) rfl
    have hKc := hK.sub (tys' := [(x_y79, .int)]) [0] rfl
    have hFc := va_free (wc := [(x_x, .inr (10, [.ref x_q1, .ref x_q4, .ref x_q10, .ref x_q16, .ref x_q17, .ref x_q23, .ref x_q27, .ref x_q31, .ref x_q32, .ref x_q49, .ref x_q51, .ref x_q53, .ref x_q78, .ref x_q89, .ref x_q96, .int (-1), .int 0, .int (-1), .int (-1)])), (x_q78, .inl (x_y79, 8, .inl (upd (upd (upd (upd (upd (upd (upd (upd (fun _ => 0) 0 (-1)) 1 (-1)) 2 (-1)) 3 (-1)) 4 (-1)) 5 (-1)) 6 (-1)) 7 (-1))))]) hD hS hA [0, 1] rfl
    refine va_calli (va_runV (As := [.int 4]) (rest := []) ⟨hx, hb, hml, hown, hts⟩ (k_X11_parted_4 l dC dI ad x_x x_q1 x_q4 x_q10 x_q16 x_q17 x_q23 x_q27 x_q31 x_q32 x_q49 x_q51 x_q53 x_q78 x_q89 x_q96 x_y79 H.size) (cwV 1 hts gT_X11_parted_131 rfl rfl rfl (by decide +kernel) ⟨Nat.le_of_ble_eq_true rfl, Nat.le_of_ble_eq_true rfl⟩) ⟨fun a U g mk q => ⟨q.1, CP.blind q.2⟩, va_recv hKc hPc (ci := 10) (q0 := 0) rfl rfl, fun U hU hW => ⟨rfl, CP.of hPc hKc hDc hE hS hFc hU hW⟩⟩ rfl rfl hl.1 rfl (lv_room (Nat.le_of_ble_eq_true rfl)) dL_law_1095 ⟨Nat.le_of_ble_eq_true rfl, Nat.le_of_ble_eq_true rfl⟩) hS (fun q _ h => hFc q h) hFc (fun r1 u t H1 locs ht hvm hw hB hz1 hk1 hS => ?_)
    obtain ⟨hP1, hK1, hD1⟩ := hB
    rw [ht] at hP1
    obtain ⟨hP, hD⟩ := va_join (wr := [(m_x, .inr (11, [.int 0, .ref m_q1, .int 0, .int 0, .int 0, .int 0, .int 0, .int 0, .int 0, .int 0, .int 0, .int 0, .long 0, .int 0, .ref m_q3, .ref m_q5, .ref m_q7, .ref m_q9, .ref m_q11, .ref m_q13, .ref m_q15, .ref m_q17, .ref m_q19, .int 0, .int 0, .int 0, .int 0, .int (-1), .int (-1), .long 0, .long 0, .ref m_q21, .ref m_q23, .int 0, .int (-1), .int 0, .ref m_q25, .int 0, .ref m_q27, .ref m_q29, .int 0, .int 0, .ref m_q31, .int 0, .int 0, .int 0, .int 0]))]) (w1 := []) hP hD [0, 1] [2] rfl rfl (by decide) (by decide) hk1 hFc hP1 hD1
    generalize H1 = H at hP hS ⊢
    clear hPc hDc hKc hFc hP1 hD1 hK1 hk1 hz1
    have hP : va_P (dC, dI) vwCl [(m_x, .inr (11, [.int 0, .ref m_q1, .int 0, .int 0, .int 0, .int 0, .int 0, .int 0, .int 0, .int 0, .int 0, .int 0, .long 0, .int 0, .ref m_q3, .ref m_q5, .ref m_q7, .ref m_q9, .ref m_q11, .ref m_q13, .ref m_q15, .ref m_q17, .ref m_q19, .int 0, .int 0, .int 0, .int 0, .int (-1), .int (-1), .long 0, .long 0, .ref m_q21, .ref m_q23, .int 0, .int (-1), .int 0, .ref m_q25, .int 0, .ref m_q27, .ref m_q29, .int 0, .int 0, .ref m_q31, .int 0, .int 0, .int 0, .int 0]))] H := hP
    have hD : va_D A [(m_x, .inr (11, [.int 0, .ref m_q1, .int 0, .int 0, .int 0, .int 0, .int 0, .int 0, .int 0, .int 0, .int 0, .int 0, .long 0, .int 0, .ref m_q3, .ref m_q5, .ref m_q7, .ref m_q9, .ref m_q11, .ref m_q13, .ref m_q15, .ref m_q17, .ref m_q19, .int 0, .int 0, .int 0, .int 0, .int (-1), .int (-1), .long 0, .long 0, .ref m_q21, .ref m_q23, .int 0, .int (-1), .int 0, .ref m_q25, .int 0, .ref m_q27, .ref m_q29, .int 0, .int 0, .ref m_q31, .int 0, .int 0, .int 0, .int 0]))] := hD
    refine zz_top (v := (-1)) hw ?_
    refine lv_aload_n hx hb dL_law_1098 rfl (lv_at hl 2 rfl) ?_
    refine lv_aload_n hx hb dL_law_1099 rfl (lv_at hl 4 rfl) ?_
    refine lv_iload hx hb dL_law_1100 (lv_at hl 0 rfl) ?_
    refine lv_iconst (v := 1) hx hb dL_law_1102 (by decide) ?_
    refine lv_iadd hx hb dL_law_1103 ?_
    refine zz_top (v := 1) (by decide) ?_
    refine va_sld hx hb hX hbl hbA hS (i := 1) (zz_in (by decide)) dL_law_1104 ?_
    refine zz_top (v := 4) (x1) ?_
    have hPc := hP.sub (ws' := [(m_x, .inr (11, [.int 0, .ref m_q1, .int 0, .int 0, .int 0, .int 0, .int 0, .int 0, .int 0, .int 0, .int 0, .int 0, .long 0, .int 0, .ref m_q3, .ref m_q5, .ref m_q7, .ref m_q9, .ref m_q11, .ref m_q13, .ref m_q15, .ref m_q17, .ref m_q19, .int 0, .int 0, .int 0, .int 0, .int (-1), .int (-1), .long 0, .long 0, .ref m_q21, .ref m_q23, .int 0, .int (-1), .int 0, .ref m_q25, .int 0, .ref m_q27, .ref m_q29, .int 0, .int 0, .ref m_q31, .int 0, .int 0, .int 0, .int 0]))]) [0] rfl
    have hDc := hD.sub (ws' := [(m_x, .inr (11, [.int 0, .ref m_q1, .int 0, .int 0, .int 0, .int 0, .int 0, .int 0, .int 0, .int 0, .int 0, .int 0, .long 0, .int 0, .ref m_q3, .ref m_q5, .ref m_q7, .ref m_q9, .ref m_q11, .ref m_q13, .ref m_q15, .ref m_q17, .ref m_q19, .int 0, .int 0, .int 0, .int 0, .int (-1), .int (-1), .long 0, .long 0, .ref m_q21, .ref m_q23, .int 0, .int (-1), .int 0, .ref m_q25, .int 0, .ref m_q27, .ref m_q29, .int 0, .int 0, .ref m_q31, .int 0, .int 0, .int 0, .int 0]))]) [0] (by decide) rfl
    have hKc := hK.sub (tys' := []) [] rfl
    have hFc := va_free (wc := [(m_x, .inr (11, [.int 0, .ref m_q1, .int 0, .int 0, .int 0, .int 0, .int 0, .int 0, .int 0, .int 0, .int 0, .int 0, .long 0, .int 0, .ref m_q3, .ref m_q5, .ref m_q7, .ref m_q9, .ref m_q11, .ref m_q13, .ref m_q15, .ref m_q17, .ref m_q19, .int 0, .int 0, .int 0, .int 0, .int (-1), .int (-1), .long 0, .long 0, .ref m_q21, .ref m_q23, .int 0, .int (-1), .int 0, .ref m_q25, .int 0, .ref m_q27, .ref m_q29, .int 0, .int 0, .ref m_q31, .int 0, .int 0, .int 0, .int 0]))]) hD hS hA [0] rfl
    refine va_calli (va_runV (As := [.int 4]) (rest := [.int (-1)]) ⟨hx, hb, hml, hown, hts⟩ (k_X12_parted_4 l dC dI ad m_x m_q1 m_q3 m_q5 m_q7 m_q9 m_q11 m_q13 m_q15 m_q17 m_q19 m_q21 m_q23 m_q25 m_q27 m_q29 m_q31 H.size) (cwV 1 hts gT_X12_parted_134 rfl rfl rfl (by decide +kernel) ⟨Nat.le_of_ble_eq_true rfl, Nat.le_of_ble_eq_true rfl⟩) ⟨fun a U g mk q => ⟨q.1, CP.blind q.2⟩, va_recv hKc hPc (ci := 11) (q0 := 0) rfl rfl, fun U hU hW => ⟨rfl, CP.of hPc hKc hDc hE hS hFc hU hW⟩⟩ rfl rfl hl.1 rfl (lv_room (Nat.le_of_ble_eq_true rfl)) dL_law_1105 ⟨Nat.le_of_ble_eq_true rfl, Nat.le_of_ble_eq_true rfl⟩) hS (fun q _ h => hFc q h) hFc (fun r2 u t H1 locs ht hvm hw hB hz1 hk1 hS => ?_)
    obtain ⟨hP1, hK1, hD1⟩ := hB
    rw [ht] at hP1
    obtain ⟨hP, hD⟩ := va_join (wr := []) (w1 := []) hP hD [0] [] rfl rfl (by decide) (by decide) hk1 hFc hP1 hD1
    generalize H1 = H at hP hS ⊢
    clear hPc hDc hKc hFc hP1 hD1 hK1 hk1 hz1
    have hP : va_P (dC, dI) vwCl [] H := hP
    have hD : va_D A [] := hD
    refine zz_top (v := (-1)) hw ?_
    refine lv_icmp_eq (tgt := 1476) hx hb dL_law_1108 (by decide) (fun _ => ?_) (fun c3 => absurd (by decide) c3)
    exact law_end l C0 hA2 hbA hS hl (Nat.le_of_ble_eq_true rfl) (Nat.le_of_ble_eq_true rfl)
  · have x1 : xs 1 = 5 := hv
    refine lv_aload_n hx hb dL_law_1088 rfl (lv_at hl 3 rfl) ?_
    refine lv_aload_n hx hb dL_law_1089 rfl (lv_at hl 4 rfl) ?_
    refine lv_iload hx hb dL_law_1090 (lv_at hl 0 rfl) ?_
    refine lv_iconst (v := 1) hx hb dL_law_1092 (by decide) ?_
    refine lv_iadd hx hb dL_law_1093 ?_
    refine zz_top (v := 1) (by decide) ?_
    refine va_sld hx hb hX hbl hbA hS (i := 1) (zz_in (by decide)) dL_law_1094 ?_
    refine zz_top (v := 5) (x1) ?_
    have hPc := hP.sub (ws' := [(x_x, .inr (10, [.ref x_q1, .ref x_q4, .ref x_q10, .ref x_q16, .ref x_q17, .ref x_q23, .ref x_q27, .ref x_q31, .ref x_q32, .ref x_q49, .ref x_q51, .ref x_q53, .ref x_q78, .ref x_q89, .ref x_q96, .int (-1), .int 0, .int (-1), .int (-1)])), (x_q78, .inl (x_y79, 8, .inl (upd (upd (upd (upd (upd (upd (upd (upd (fun _ => 0) 0 (-1)) 1 (-1)) 2 (-1)) 3 (-1)) 4 (-1)) 5 (-1)) 6 (-1)) 7 (-1))))]) [0, 1] rfl
    have hDc := hD.sub (ws' := [(x_x, .inr (10, [.ref x_q1, .ref x_q4, .ref x_q10, .ref x_q16, .ref x_q17, .ref x_q23, .ref x_q27, .ref x_q31, .ref x_q32, .ref x_q49, .ref x_q51, .ref x_q53, .ref x_q78, .ref x_q89, .ref x_q96, .int (-1), .int 0, .int (-1), .int (-1)])), (x_q78, .inl (x_y79, 8, .inl (upd (upd (upd (upd (upd (upd (upd (upd (fun _ => 0) 0 (-1)) 1 (-1)) 2 (-1)) 3 (-1)) 4 (-1)) 5 (-1)) 6 (-1)) 7 (-1))))]) [0, 1] (by decide) rfl
    have hKc := hK.sub (tys' := [(x_y79, .int)]) [0] rfl
    have hFc := va_free (wc := [(x_x, .inr (10, [.ref x_q1, .ref x_q4, .ref x_q10, .ref x_q16, .ref x_q17, .ref x_q23, .ref x_q27, .ref x_q31, .ref x_q32, .ref x_q49, .ref x_q51, .ref x_q53, .ref x_q78, .ref x_q89, .ref x_q96, .int (-1), .int 0, .int (-1), .int (-1)])), (x_q78, .inl (x_y79, 8, .inl (upd (upd (upd (upd (upd (upd (upd (upd (fun _ => 0) 0 (-1)) 1 (-1)) 2 (-1)) 3 (-1)) 4 (-1)) 5 (-1)) 6 (-1)) 7 (-1))))]) hD hS hA [0, 1] rfl
    refine va_calli (va_runV (As := [.int 5]) (rest := []) ⟨hx, hb, hml, hown, hts⟩ (k_X11_parted_5 l dC dI ad x_x x_q1 x_q4 x_q10 x_q16 x_q17 x_q23 x_q27 x_q31 x_q32 x_q49 x_q51 x_q53 x_q78 x_q89 x_q96 x_y79 H.size) (cwV 1 hts gT_X11_parted_131 rfl rfl rfl (by decide +kernel) ⟨Nat.le_of_ble_eq_true rfl, Nat.le_of_ble_eq_true rfl⟩) ⟨fun a U g mk q => ⟨q.1, CP.blind q.2⟩, va_recv hKc hPc (ci := 10) (q0 := 0) rfl rfl, fun U hU hW => ⟨rfl, CP.of hPc hKc hDc hE hS hFc hU hW⟩⟩ rfl rfl hl.1 rfl (lv_room (Nat.le_of_ble_eq_true rfl)) dL_law_1095 ⟨Nat.le_of_ble_eq_true rfl, Nat.le_of_ble_eq_true rfl⟩) hS (fun q _ h => hFc q h) hFc (fun r1 u t H1 locs ht hvm hw hB hz1 hk1 hS => ?_)
    obtain ⟨hP1, hK1, hD1⟩ := hB
    rw [ht] at hP1
    obtain ⟨hP, hD⟩ := va_join (wr := [(m_x, .inr (11, [.int 0, .ref m_q1, .int 0, .int 0, .int 0, .int 0, .int 0, .int 0, .int 0, .int 0, .int 0, .int 0, .long 0, .int 0, .ref m_q3, .ref m_q5, .ref m_q7, .ref m_q9, .ref m_q11, .ref m_q13, .ref m_q15, .ref m_q17, .ref m_q19, .int 0, .int 0, .int 0, .int 0, .int (-1), .int (-1), .long 0, .long 0, .ref m_q21, .ref m_q23, .int 0, .int (-1), .int 0, .ref m_q25, .int 0, .ref m_q27, .ref m_q29, .int 0, .int 0, .ref m_q31, .int 0, .int 0, .int 0, .int 0]))]) (w1 := []) hP hD [0, 1] [2] rfl rfl (by decide) (by decide) hk1 hFc hP1 hD1
    generalize H1 = H at hP hS ⊢
    clear hPc hDc hKc hFc hP1 hD1 hK1 hk1 hz1
    have hP : va_P (dC, dI) vwCl [(m_x, .inr (11, [.int 0, .ref m_q1, .int 0, .int 0, .int 0, .int 0, .int 0, .int 0, .int 0, .int 0, .int 0, .int 0, .long 0, .int 0, .ref m_q3, .ref m_q5, .ref m_q7, .ref m_q9, .ref m_q11, .ref m_q13, .ref m_q15, .ref m_q17, .ref m_q19, .int 0, .int 0, .int 0, .int 0, .int (-1), .int (-1), .long 0, .long 0, .ref m_q21, .ref m_q23, .int 0, .int (-1), .int 0, .ref m_q25, .int 0, .ref m_q27, .ref m_q29, .int 0, .int 0, .ref m_q31, .int 0, .int 0, .int 0, .int 0]))] H := hP
    have hD : va_D A [(m_x, .inr (11, [.int 0, .ref m_q1, .int 0, .int 0, .int 0, .int 0, .int 0, .int 0, .int 0, .int 0, .int 0, .int 0, .long 0, .int 0, .ref m_q3, .ref m_q5, .ref m_q7, .ref m_q9, .ref m_q11, .ref m_q13, .ref m_q15, .ref m_q17, .ref m_q19, .int 0, .int 0, .int 0, .int 0, .int (-1), .int (-1), .long 0, .long 0, .ref m_q21, .ref m_q23, .int 0, .int (-1), .int 0, .ref m_q25, .int 0, .ref m_q27, .ref m_q29, .int 0, .int 0, .ref m_q31, .int 0, .int 0, .int 0, .int 0]))] := hD
    refine zz_top (v := (-1)) hw ?_
    refine lv_aload_n hx hb dL_law_1098 rfl (lv_at hl 2 rfl) ?_
    refine lv_aload_n hx hb dL_law_1099 rfl (lv_at hl 4 rfl) ?_
    refine lv_iload hx hb dL_law_1100 (lv_at hl 0 rfl) ?_
    refine lv_iconst (v := 1) hx hb dL_law_1102 (by decide) ?_
    refine lv_iadd hx hb dL_law_1103 ?_
    refine zz_top (v := 1) (by decide) ?_
    refine va_sld hx hb hX hbl hbA hS (i := 1) (zz_in (by decide)) dL_law_1104 ?_
    refine zz_top (v := 5) (x1) ?_
    have hPc := hP.sub (ws' := [(m_x, .inr (11, [.int 0, .ref m_q1, .int 0, .int 0, .int 0, .int 0, .int 0, .int 0, .int 0, .int 0, .int 0, .int 0, .long 0, .int 0, .ref m_q3, .ref m_q5, .ref m_q7, .ref m_q9, .ref m_q11, .ref m_q13, .ref m_q15, .ref m_q17, .ref m_q19, .int 0, .int 0, .int 0, .int 0, .int (-1), .int (-1), .long 0, .long 0, .ref m_q21, .ref m_q23, .int 0, .int (-1), .int 0, .ref m_q25, .int 0, .ref m_q27, .ref m_q29, .int 0, .int 0, .ref m_q31, .int 0, .int 0, .int 0, .int 0]))]) [0] rfl
    have hDc := hD.sub (ws' := [(m_x, .inr (11, [.int 0, .ref m_q1, .int 0, .int 0, .int 0, .int 0, .int 0, .int 0, .int 0, .int 0, .int 0, .int 0, .long 0, .int 0, .ref m_q3, .ref m_q5, .ref m_q7, .ref m_q9, .ref m_q11, .ref m_q13, .ref m_q15, .ref m_q17, .ref m_q19, .int 0, .int 0, .int 0, .int 0, .int (-1), .int (-1), .long 0, .long 0, .ref m_q21, .ref m_q23, .int 0, .int (-1), .int 0, .ref m_q25, .int 0, .ref m_q27, .ref m_q29, .int 0, .int 0, .ref m_q31, .int 0, .int 0, .int 0, .int 0]))]) [0] (by decide) rfl
    have hKc := hK.sub (tys' := []) [] rfl
    have hFc := va_free (wc := [(m_x, .inr (11, [.int 0, .ref m_q1, .int 0, .int 0, .int 0, .int 0, .int 0, .int 0, .int 0, .int 0, .int 0, .int 0, .long 0, .int 0, .ref m_q3, .ref m_q5, .ref m_q7, .ref m_q9, .ref m_q11, .ref m_q13, .ref m_q15, .ref m_q17, .ref m_q19, .int 0, .int 0, .int 0, .int 0, .int (-1), .int (-1), .long 0, .long 0, .ref m_q21, .ref m_q23, .int 0, .int (-1), .int 0, .ref m_q25, .int 0, .ref m_q27, .ref m_q29, .int 0, .int 0, .ref m_q31, .int 0, .int 0, .int 0, .int 0]))]) hD hS hA [0] rfl
    refine va_calli (va_runV (As := [.int 5]) (rest := [.int (-1)]) ⟨hx, hb, hml, hown, hts⟩ (k_X12_parted_5 l dC dI ad m_x m_q1 m_q3 m_q5 m_q7 m_q9 m_q11 m_q13 m_q15 m_q17 m_q19 m_q21 m_q23 m_q25 m_q27 m_q29 m_q31 H.size) (cwV 1 hts gT_X12_parted_134 rfl rfl rfl (by decide +kernel) ⟨Nat.le_of_ble_eq_true rfl, Nat.le_of_ble_eq_true rfl⟩) ⟨fun a U g mk q => ⟨q.1, CP.blind q.2⟩, va_recv hKc hPc (ci := 11) (q0 := 0) rfl rfl, fun U hU hW => ⟨rfl, CP.of hPc hKc hDc hE hS hFc hU hW⟩⟩ rfl rfl hl.1 rfl (lv_room (Nat.le_of_ble_eq_true rfl)) dL_law_1105 ⟨Nat.le_of_ble_eq_true rfl, Nat.le_of_ble_eq_true rfl⟩) hS (fun q _ h => hFc q h) hFc (fun r2 u t H1 locs ht hvm hw hB hz1 hk1 hS => ?_)
    obtain ⟨hP1, hK1, hD1⟩ := hB
    rw [ht] at hP1
    obtain ⟨hP, hD⟩ := va_join (wr := []) (w1 := []) hP hD [0] [] rfl rfl (by decide) (by decide) hk1 hFc hP1 hD1
    generalize H1 = H at hP hS ⊢
    clear hPc hDc hKc hFc hP1 hD1 hK1 hk1 hz1
    have hP : va_P (dC, dI) vwCl [] H := hP
    have hD : va_D A [] := hD
    refine zz_top (v := (-1)) hw ?_
    refine lv_icmp_eq (tgt := 1476) hx hb dL_law_1108 (by decide) (fun _ => ?_) (fun c3 => absurd (by decide) c3)
    exact law_end l C0 hA2 hbA hS hl (Nat.le_of_ble_eq_true rfl) (Nat.le_of_ble_eq_true rfl)
  · have x1 : xs 1 = 6 := hv
    refine lv_aload_n hx hb dL_law_1088 rfl (lv_at hl 3 rfl) ?_
    refine lv_aload_n hx hb dL_law_1089 rfl (lv_at hl 4 rfl) ?_
    refine lv_iload hx hb dL_law_1090 (lv_at hl 0 rfl) ?_
    refine lv_iconst (v := 1) hx hb dL_law_1092 (by decide) ?_
    refine lv_iadd hx hb dL_law_1093 ?_
    refine zz_top (v := 1) (by decide) ?_
    refine va_sld hx hb hX hbl hbA hS (i := 1) (zz_in (by decide)) dL_law_1094 ?_
    refine zz_top (v := 6) (x1) ?_
    have hPc := hP.sub (ws' := [(x_x, .inr (10, [.ref x_q1, .ref x_q4, .ref x_q10, .ref x_q16, .ref x_q17, .ref x_q23, .ref x_q27, .ref x_q31, .ref x_q32, .ref x_q49, .ref x_q51, .ref x_q53, .ref x_q78, .ref x_q89, .ref x_q96, .int (-1), .int 0, .int (-1), .int (-1)])), (x_q78, .inl (x_y79, 8, .inl (upd (upd (upd (upd (upd (upd (upd (upd (fun _ => 0) 0 (-1)) 1 (-1)) 2 (-1)) 3 (-1)) 4 (-1)) 5 (-1)) 6 (-1)) 7 (-1))))]) [0, 1] rfl
    have hDc := hD.sub (ws' := [(x_x, .inr (10, [.ref x_q1, .ref x_q4, .ref x_q10, .ref x_q16, .ref x_q17, .ref x_q23, .ref x_q27, .ref x_q31, .ref x_q32, .ref x_q49, .ref x_q51, .ref x_q53, .ref x_q78, .ref x_q89, .ref x_q96, .int (-1), .int 0, .int (-1), .int (-1)])), (x_q78, .inl (x_y79, 8, .inl (upd (upd (upd (upd (upd (upd (upd (upd (fun _ => 0) 0 (-1)) 1 (-1)) 2 (-1)) 3 (-1)) 4 (-1)) 5 (-1)) 6 (-1)) 7 (-1))))]) [0, 1] (by decide) rfl
    have hKc := hK.sub (tys' := [(x_y79, .int)]) [0] rfl
    have hFc := va_free (wc := [(x_x, .inr (10, [.ref x_q1, .ref x_q4, .ref x_q10, .ref x_q16, .ref x_q17, .ref x_q23, .ref x_q27, .ref x_q31, .ref x_q32, .ref x_q49, .ref x_q51, .ref x_q53, .ref x_q78, .ref x_q89, .ref x_q96, .int (-1), .int 0, .int (-1), .int (-1)])), (x_q78, .inl (x_y79, 8, .inl (upd (upd (upd (upd (upd (upd (upd (upd (fun _ => 0) 0 (-1)) 1 (-1)) 2 (-1)) 3 (-1)) 4 (-1)) 5 (-1)) 6 (-1)) 7 (-1))))]) hD hS hA [0, 1] rfl
    refine va_calli (va_runV (As := [.int 6]) (rest := []) ⟨hx, hb, hml, hown, hts⟩ (k_X11_parted_6 l dC dI ad x_x x_q1 x_q4 x_q10 x_q16 x_q17 x_q23 x_q27 x_q31 x_q32 x_q49 x_q51 x_q53 x_q78 x_q89 x_q96 x_y79 H.size) (cwV 1 hts gT_X11_parted_131 rfl rfl rfl (by decide +kernel) ⟨Nat.le_of_ble_eq_true rfl, Nat.le_of_ble_eq_true rfl⟩) ⟨fun a U g mk q => ⟨q.1, CP.blind q.2⟩, va_recv hKc hPc (ci := 10) (q0 := 0) rfl rfl, fun U hU hW => ⟨rfl, CP.of hPc hKc hDc hE hS hFc hU hW⟩⟩ rfl rfl hl.1 rfl (lv_room (Nat.le_of_ble_eq_true rfl)) dL_law_1095 ⟨Nat.le_of_ble_eq_true rfl, Nat.le_of_ble_eq_true rfl⟩) hS (fun q _ h => hFc q h) hFc (fun r1 u t H1 locs ht hvm hw hB hz1 hk1 hS => ?_)
    obtain ⟨hP1, hK1, hD1⟩ := hB
    rw [ht] at hP1
    obtain ⟨hP, hD⟩ := va_join (wr := [(m_x, .inr (11, [.int 0, .ref m_q1, .int 0, .int 0, .int 0, .int 0, .int 0, .int 0, .int 0, .int 0, .int 0, .int 0, .long 0, .int 0, .ref m_q3, .ref m_q5, .ref m_q7, .ref m_q9, .ref m_q11, .ref m_q13, .ref m_q15, .ref m_q17, .ref m_q19, .int 0, .int 0, .int 0, .int 0, .int (-1), .int (-1), .long 0, .long 0, .ref m_q21, .ref m_q23, .int 0, .int (-1), .int 0, .ref m_q25, .int 0, .ref m_q27, .ref m_q29, .int 0, .int 0, .ref m_q31, .int 0, .int 0, .int 0, .int 0]))]) (w1 := []) hP hD [0, 1] [2] rfl rfl (by decide) (by decide) hk1 hFc hP1 hD1
    generalize H1 = H at hP hS ⊢
    clear hPc hDc hKc hFc hP1 hD1 hK1 hk1 hz1
    have hP : va_P (dC, dI) vwCl [(m_x, .inr (11, [.int 0, .ref m_q1, .int 0, .int 0, .int 0, .int 0, .int 0, .int 0, .int 0, .int 0, .int 0, .int 0, .long 0, .int 0, .ref m_q3, .ref m_q5, .ref m_q7, .ref m_q9, .ref m_q11, .ref m_q13, .ref m_q15, .ref m_q17, .ref m_q19, .int 0, .int 0, .int 0, .int 0, .int (-1), .int (-1), .long 0, .long 0, .ref m_q21, .ref m_q23, .int 0, .int (-1), .int 0, .ref m_q25, .int 0, .ref m_q27, .ref m_q29, .int 0, .int 0, .ref m_q31, .int 0, .int 0, .int 0, .int 0]))] H := hP
    have hD : va_D A [(m_x, .inr (11, [.int 0, .ref m_q1, .int 0, .int 0, .int 0, .int 0, .int 0, .int 0, .int 0, .int 0, .int 0, .int 0, .long 0, .int 0, .ref m_q3, .ref m_q5, .ref m_q7, .ref m_q9, .ref m_q11, .ref m_q13, .ref m_q15, .ref m_q17, .ref m_q19, .int 0, .int 0, .int 0, .int 0, .int (-1), .int (-1), .long 0, .long 0, .ref m_q21, .ref m_q23, .int 0, .int (-1), .int 0, .ref m_q25, .int 0, .ref m_q27, .ref m_q29, .int 0, .int 0, .ref m_q31, .int 0, .int 0, .int 0, .int 0]))] := hD
    refine zz_top (v := (-1)) hw ?_
    refine lv_aload_n hx hb dL_law_1098 rfl (lv_at hl 2 rfl) ?_
    refine lv_aload_n hx hb dL_law_1099 rfl (lv_at hl 4 rfl) ?_
    refine lv_iload hx hb dL_law_1100 (lv_at hl 0 rfl) ?_
    refine lv_iconst (v := 1) hx hb dL_law_1102 (by decide) ?_
    refine lv_iadd hx hb dL_law_1103 ?_
    refine zz_top (v := 1) (by decide) ?_
    refine va_sld hx hb hX hbl hbA hS (i := 1) (zz_in (by decide)) dL_law_1104 ?_
    refine zz_top (v := 6) (x1) ?_
    have hPc := hP.sub (ws' := [(m_x, .inr (11, [.int 0, .ref m_q1, .int 0, .int 0, .int 0, .int 0, .int 0, .int 0, .int 0, .int 0, .int 0, .int 0, .long 0, .int 0, .ref m_q3, .ref m_q5, .ref m_q7, .ref m_q9, .ref m_q11, .ref m_q13, .ref m_q15, .ref m_q17, .ref m_q19, .int 0, .int 0, .int 0, .int 0, .int (-1), .int (-1), .long 0, .long 0, .ref m_q21, .ref m_q23, .int 0, .int (-1), .int 0, .ref m_q25, .int 0, .ref m_q27, .ref m_q29, .int 0, .int 0, .ref m_q31, .int 0, .int 0, .int 0, .int 0]))]) [0] rfl
    have hDc := hD.sub (ws' := [(m_x, .inr (11, [.int 0, .ref m_q1, .int 0, .int 0, .int 0, .int 0, .int 0, .int 0, .int 0, .int 0, .int 0, .int 0, .long 0, .int 0, .ref m_q3, .ref m_q5, .ref m_q7, .ref m_q9, .ref m_q11, .ref m_q13, .ref m_q15, .ref m_q17, .ref m_q19, .int 0, .int 0, .int 0, .int 0, .int (-1), .int (-1), .long 0, .long 0, .ref m_q21, .ref m_q23, .int 0, .int (-1), .int 0, .ref m_q25, .int 0, .ref m_q27, .ref m_q29, .int 0, .int 0, .ref m_q31, .int 0, .int 0, .int 0, .int 0]))]) [0] (by decide) rfl
    have hKc := hK.sub (tys' := []) [] rfl
    have hFc := va_free (wc := [(m_x, .inr (11, [.int 0, .ref m_q1, .int 0, .int 0, .int 0, .int 0, .int 0, .int 0, .int 0, .int 0, .int 0, .int 0, .long 0, .int 0, .ref m_q3, .ref m_q5, .ref m_q7, .ref m_q9, .ref m_q11, .ref m_q13, .ref m_q15, .ref m_q17, .ref m_q19, .int 0, .int 0, .int 0, .int 0, .int (-1), .int (-1), .long 0, .long 0, .ref m_q21, .ref m_q23, .int 0, .int (-1), .int 0, .ref m_q25, .int 0, .ref m_q27, .ref m_q29, .int 0, .int 0, .ref m_q31, .int 0, .int 0, .int 0, .int 0]))]) hD hS hA [0] rfl
    refine va_calli (va_runV (As := [.int 6]) (rest := [.int (-1)]) ⟨hx, hb, hml, hown, hts⟩ (k_X12_parted_6 l dC dI ad m_x m_q1 m_q3 m_q5 m_q7 m_q9 m_q11 m_q13 m_q15 m_q17 m_q19 m_q21 m_q23 m_q25 m_q27 m_q29 m_q31 H.size) (cwV 1 hts gT_X12_parted_134 rfl rfl rfl (by decide +kernel) ⟨Nat.le_of_ble_eq_true rfl, Nat.le_of_ble_eq_true rfl⟩) ⟨fun a U g mk q => ⟨q.1, CP.blind q.2⟩, va_recv hKc hPc (ci := 11) (q0 := 0) rfl rfl, fun U hU hW => ⟨rfl, CP.of hPc hKc hDc hE hS hFc hU hW⟩⟩ rfl rfl hl.1 rfl (lv_room (Nat.le_of_ble_eq_true rfl)) dL_law_1105 ⟨Nat.le_of_ble_eq_true rfl, Nat.le_of_ble_eq_true rfl⟩) hS (fun q _ h => hFc q h) hFc (fun r2 u t H1 locs ht hvm hw hB hz1 hk1 hS => ?_)
    obtain ⟨hP1, hK1, hD1⟩ := hB
    rw [ht] at hP1
    obtain ⟨hP, hD⟩ := va_join (wr := []) (w1 := []) hP hD [0] [] rfl rfl (by decide) (by decide) hk1 hFc hP1 hD1
    generalize H1 = H at hP hS ⊢
    clear hPc hDc hKc hFc hP1 hD1 hK1 hk1 hz1
    have hP : va_P (dC, dI) vwCl [] H := hP
    have hD : va_D A [] := hD
    refine zz_top (v := (-1)) hw ?_
    refine lv_icmp_eq (tgt := 1476) hx hb dL_law_1108 (by decide) (fun _ => ?_) (fun c3 => absurd (by decide) c3)
    exact law_end l C0 hA2 hbA hS hl (Nat.le_of_ble_eq_true rfl) (Nat.le_of_ble_eq_true rfl)
  · have x1 : xs 1 = 7 := hv
    refine lv_aload_n hx hb dL_law_1088 rfl (lv_at hl 3 rfl) ?_
    refine lv_aload_n hx hb dL_law_1089 rfl (lv_at hl 4 rfl) ?_
    refine lv_iload hx hb dL_law_1090 (lv_at hl 0 rfl) ?_
    refine lv_iconst (v := 1) hx hb dL_law_1092 (by decide) ?_
    refine lv_iadd hx hb dL_law_1093 ?_
    refine zz_top (v := 1) (by decide) ?_
    refine va_sld hx hb hX hbl hbA hS (i := 1) (zz_in (by decide)) dL_law_1094 ?_
    refine zz_top (v := 7) (x1) ?_
    have hPc := hP.sub (ws' := [(x_x, .inr (10, [.ref x_q1, .ref x_q4, .ref x_q10, .ref x_q16, .ref x_q17, .ref x_q23, .ref x_q27, .ref x_q31, .ref x_q32, .ref x_q49, .ref x_q51, .ref x_q53, .ref x_q78, .ref x_q89, .ref x_q96, .int (-1), .int 0, .int (-1), .int (-1)])), (x_q78, .inl (x_y79, 8, .inl (upd (upd (upd (upd (upd (upd (upd (upd (fun _ => 0) 0 (-1)) 1 (-1)) 2 (-1)) 3 (-1)) 4 (-1)) 5 (-1)) 6 (-1)) 7 (-1))))]) [0, 1] rfl
    have hDc := hD.sub (ws' := [(x_x, .inr (10, [.ref x_q1, .ref x_q4, .ref x_q10, .ref x_q16, .ref x_q17, .ref x_q23, .ref x_q27, .ref x_q31, .ref x_q32, .ref x_q49, .ref x_q51, .ref x_q53, .ref x_q78, .ref x_q89, .ref x_q96, .int (-1), .int 0, .int (-1), .int (-1)])), (x_q78, .inl (x_y79, 8, .inl (upd (upd (upd (upd (upd (upd (upd (upd (fun _ => 0) 0 (-1)) 1 (-1)) 2 (-1)) 3 (-1)) 4 (-1)) 5 (-1)) 6 (-1)) 7 (-1))))]) [0, 1] (by decide) rfl
    have hKc := hK.sub (tys' := [(x_y79, .int)]) [0] rfl
    have hFc := va_free (wc := [(x_x, .inr (10, [.ref x_q1, .ref x_q4, .ref x_q10, .ref x_q16, .ref x_q17, .ref x_q23, .ref x_q27, .ref x_q31, .ref x_q32, .ref x_q49, .ref x_q51, .ref x_q53, .ref x_q78, .ref x_q89, .ref x_q96, .int (-1), .int 0, .int (-1), .int (-1)])), (x_q78, .inl (x_y79, 8, .inl (upd (upd (upd (upd (upd (upd (upd (upd (fun _ => 0) 0 (-1)) 1 (-1)) 2 (-1)) 3 (-1)) 4 (-1)) 5 (-1)) 6 (-1)) 7 (-1))))]) hD hS hA [0, 1] rfl
    refine va_calli (va_runV (As := [.int 7]) (rest := []) ⟨hx, hb, hml, hown, hts⟩ (k_X11_parted_7 l dC dI ad x_x x_q1 x_q4 x_q10 x_q16 x_q17 x_q23 x_q27 x_q31 x_q32 x_q49 x_q51 x_q53 x_q78 x_q89 x_q96 x_y79 H.size) (cwV 1 hts gT_X11_parted_131 rfl rfl rfl (by decide +kernel) ⟨Nat.le_of_ble_eq_true rfl, Nat.le_of_ble_eq_true rfl⟩) ⟨fun a U g mk q => ⟨q.1, CP.blind q.2⟩, va_recv hKc hPc (ci := 10) (q0 := 0) rfl rfl, fun U hU hW => ⟨rfl, CP.of hPc hKc hDc hE hS hFc hU hW⟩⟩ rfl rfl hl.1 rfl (lv_room (Nat.le_of_ble_eq_true rfl)) dL_law_1095 ⟨Nat.le_of_ble_eq_true rfl, Nat.le_of_ble_eq_true rfl⟩) hS (fun q _ h => hFc q h) hFc (fun r1 u t H1 locs ht hvm hw hB hz1 hk1 hS => ?_)
    obtain ⟨hP1, hK1, hD1⟩ := hB
    rw [ht] at hP1
    obtain ⟨hP, hD⟩ := va_join (wr := [(m_x, .inr (11, [.int 0, .ref m_q1, .int 0, .int 0, .int 0, .int 0, .int 0, .int 0, .int 0, .int 0, .int 0, .int 0, .long 0, .int 0, .ref m_q3, .ref m_q5, .ref m_q7, .ref m_q9, .ref m_q11, .ref m_q13, .ref m_q15, .ref m_q17, .ref m_q19, .int 0, .int 0, .int 0, .int 0, .int (-1), .int (-1), .long 0, .long 0, .ref m_q21, .ref m_q23, .int 0, .int (-1), .int 0, .ref m_q25, .int 0, .ref m_q27, .ref m_q29, .int 0, .int 0, .ref m_q31, .int 0, .int 0, .int 0, .int 0]))]) (w1 := []) hP hD [0, 1] [2] rfl rfl (by decide) (by decide) hk1 hFc hP1 hD1
    generalize H1 = H at hP hS ⊢
    clear hPc hDc hKc hFc hP1 hD1 hK1 hk1 hz1
    have hP : va_P (dC, dI) vwCl [(m_x, .inr (11, [.int 0, .ref m_q1, .int 0, .int 0, .int 0, .int 0, .int 0, .int 0, .int 0, .int 0, .int 0, .int 0, .long 0, .int 0, .ref m_q3, .ref m_q5, .ref m_q7, .ref m_q9, .ref m_q11, .ref m_q13, .ref m_q15, .ref m_q17, .ref m_q19, .int 0, .int 0, .int 0, .int 0, .int (-1), .int (-1), .long 0, .long 0, .ref m_q21, .ref m_q23, .int 0, .int (-1), .int 0, .ref m_q25, .int 0, .ref m_q27, .ref m_q29, .int 0, .int 0, .ref m_q31, .int 0, .int 0, .int 0, .int 0]))] H := hP
    have hD : va_D A [(m_x, .inr (11, [.int 0, .ref m_q1, .int 0, .int 0, .int 0, .int 0, .int 0, .int 0, .int 0, .int 0, .int 0, .int 0, .long 0, .int 0, .ref m_q3, .ref m_q5, .ref m_q7, .ref m_q9, .ref m_q11, .ref m_q13, .ref m_q15, .ref m_q17, .ref m_q19, .int 0, .int 0, .int 0, .int 0, .int (-1), .int (-1), .long 0, .long 0, .ref m_q21, .ref m_q23, .int 0, .int (-1), .int 0, .ref m_q25, .int 0, .ref m_q27, .ref m_q29, .int 0, .int 0, .ref m_q31, .int 0, .int 0, .int 0, .int 0]))] := hD
    refine zz_top (v := (-1)) hw ?_
    refine lv_aload_n hx hb dL_law_1098 rfl (lv_at hl 2 rfl) ?_
    refine lv_aload_n hx hb dL_law_1099 rfl (lv_at hl 4 rfl) ?_
    refine lv_iload hx hb dL_law_1100 (lv_at hl 0 rfl) ?_
    refine lv_iconst (v := 1) hx hb dL_law_1102 (by decide) ?_
    refine lv_iadd hx hb dL_law_1103 ?_
    refine zz_top (v := 1) (by decide) ?_
    refine va_sld hx hb hX hbl hbA hS (i := 1) (zz_in (by decide)) dL_law_1104 ?_
    refine zz_top (v := 7) (x1) ?_
    have hPc := hP.sub (ws' := [(m_x, .inr (11, [.int 0, .ref m_q1, .int 0, .int 0, .int 0, .int 0, .int 0, .int 0, .int 0, .int 0, .int 0, .int 0, .long 0, .int 0, .ref m_q3, .ref m_q5, .ref m_q7, .ref m_q9, .ref m_q11, .ref m_q13, .ref m_q15, .ref m_q17, .ref m_q19, .int 0, .int 0, .int 0, .int 0, .int (-1), .int (-1), .long 0, .long 0, .ref m_q21, .ref m_q23, .int 0, .int (-1), .int 0, .ref m_q25, .int 0, .ref m_q27, .ref m_q29, .int 0, .int 0, .ref m_q31, .int 0, .int 0, .int 0, .int 0]))]) [0] rfl
    have hDc := hD.sub (ws' := [(m_x, .inr (11, [.int 0, .ref m_q1, .int 0, .int 0, .int 0, .int 0, .int 0, .int 0, .int 0, .int 0, .int 0, .int 0, .long 0, .int 0, .ref m_q3, .ref m_q5, .ref m_q7, .ref m_q9, .ref m_q11, .ref m_q13, .ref m_q15, .ref m_q17, .ref m_q19, .int 0, .int 0, .int 0, .int 0, .int (-1), .int (-1), .long 0, .long 0, .ref m_q21, .ref m_q23, .int 0, .int (-1), .int 0, .ref m_q25, .int 0, .ref m_q27, .ref m_q29, .int 0, .int 0, .ref m_q31, .int 0, .int 0, .int 0, .int 0]))]) [0] (by decide) rfl
    have hKc := hK.sub (tys' := []) [] rfl
    have hFc := va_free (wc := [(m_x, .inr (11, [.int 0, .ref m_q1, .int 0, .int 0, .int 0, .int 0, .int 0, .int 0, .int 0, .int 0, .int 0, .int 0, .long 0, .int 0, .ref m_q3, .ref m_q5, .ref m_q7, .ref m_q9, .ref m_q11, .ref m_q13, .ref m_q15, .ref m_q17, .ref m_q19, .int 0, .int 0, .int 0, .int 0, .int (-1), .int (-1), .long 0, .long 0, .ref m_q21, .ref m_q23, .int 0, .int (-1), .int 0, .ref m_q25, .int 0, .ref m_q27, .ref m_q29, .int 0, .int 0, .ref m_q31, .int 0, .int 0, .int 0, .int 0]))]) hD hS hA [0] rfl
    refine va_calli (va_runV (As := [.int 7]) (rest := [.int (-1)]) ⟨hx, hb, hml, hown, hts⟩ (k_X12_parted_7 l dC dI ad m_x m_q1 m_q3 m_q5 m_q7 m_q9 m_q11 m_q13 m_q15 m_q17 m_q19 m_q21 m_q23 m_q25 m_q27 m_q29 m_q31 H.size) (cwV 1 hts gT_X12_parted_134 rfl rfl rfl (by decide +kernel) ⟨Nat.le_of_ble_eq_true rfl, Nat.le_of_ble_eq_true rfl⟩) ⟨fun a U g mk q => ⟨q.1, CP.blind q.2⟩, va_recv hKc hPc (ci := 11) (q0 := 0) rfl rfl, fun U hU hW => ⟨rfl, CP.of hPc hKc hDc hE hS hFc hU hW⟩⟩ rfl rfl hl.1 rfl (lv_room (Nat.le_of_ble_eq_true rfl)) dL_law_1105 ⟨Nat.le_of_ble_eq_true rfl, Nat.le_of_ble_eq_true rfl⟩) hS (fun q _ h => hFc q h) hFc (fun r2 u t H1 locs ht hvm hw hB hz1 hk1 hS => ?_)
    obtain ⟨hP1, hK1, hD1⟩ := hB
    rw [ht] at hP1
    obtain ⟨hP, hD⟩ := va_join (wr := []) (w1 := []) hP hD [0] [] rfl rfl (by decide) (by decide) hk1 hFc hP1 hD1
    generalize H1 = H at hP hS ⊢
    clear hPc hDc hKc hFc hP1 hD1 hK1 hk1 hz1
    have hP : va_P (dC, dI) vwCl [] H := hP
    have hD : va_D A [] := hD
    refine zz_top (v := (-1)) hw ?_
    refine lv_icmp_eq (tgt := 1476) hx hb dL_law_1108 (by decide) (fun _ => ?_) (fun c3 => absurd (by decide) c3)
    exact law_end l C0 hA2 hbA hS hl (Nat.le_of_ble_eq_true rfl) (Nat.le_of_ble_eq_true rfl)
  · obtain ⟨a1, x1⟩ : ∃ y : Int32, xs 1 = y := ⟨_, rfl⟩
    rw [x1] at hv
    have e0_0 := hv
    refine lv_aload_n hx hb dL_law_1088 rfl (lv_at hl 3 rfl) ?_
    refine lv_aload_n hx hb dL_law_1089 rfl (lv_at hl 4 rfl) ?_
    refine lv_iload hx hb dL_law_1090 (lv_at hl 0 rfl) ?_
    refine lv_iconst (v := 1) hx hb dL_law_1092 (by decide) ?_
    refine lv_iadd hx hb dL_law_1093 ?_
    refine zz_top (v := 1) (by decide) ?_
    refine va_sld hx hb hX hbl hbA hS (i := 1) (zz_in (by decide)) dL_law_1094 ?_
    refine zz_top (v := a1) (x1) ?_
    have hPc := hP.sub (ws' := []) [] rfl
    have hDc := hD.sub (ws' := []) [] (by decide) rfl
    have hKc := hK.sub (tys' := []) [] rfl
    have hFc := va_free (wc := []) hD hS hA [] rfl
    refine va_calli (va_runV (As := [.int a1]) (rest := []) ⟨hx, hb, hml, hown, hts⟩ (k_X11_parted_8 l dC dI ad x_x a1 H.size e0_0) (cwV 1 hts gT_X11_parted_131 rfl rfl rfl (by decide +kernel) ⟨Nat.le_of_ble_eq_true rfl, Nat.le_of_ble_eq_true rfl⟩) ⟨fun a U g mk q => ⟨q.1, CP.blind q.2⟩, va_recv hK hP (ci := 10) (q0 := 0) rfl rfl, fun U hU hW => ⟨rfl, CP.of hPc hKc hDc hE hS hFc hU hW⟩⟩ rfl rfl hl.1 rfl (lv_room (Nat.le_of_ble_eq_true rfl)) dL_law_1095 ⟨Nat.le_of_ble_eq_true rfl, Nat.le_of_ble_eq_true rfl⟩) hS (fun q _ h => hFc q h) hFc (fun r1 u t H1 locs ht hvm hw hB hz1 hk1 hS => ?_)
    obtain ⟨hP1, hK1, hD1⟩ := hB
    rw [ht] at hP1
    obtain ⟨hP, hD⟩ := va_join (wr := [(x_x, .inr (10, [.ref x_q1, .ref x_q4, .ref x_q10, .ref x_q16, .ref x_q17, .ref x_q23, .ref x_q27, .ref x_q31, .ref x_q32, .ref x_q49, .ref x_q51, .ref x_q53, .ref x_q78, .ref x_q89, .ref x_q96, .int (-1), .int 0, .int (-1), .int (-1)])), (x_q78, .inl (x_y79, 8, .inl (upd (upd (upd (upd (upd (upd (upd (upd (fun _ => 0) 0 (-1)) 1 (-1)) 2 (-1)) 3 (-1)) 4 (-1)) 5 (-1)) 6 (-1)) 7 (-1)))), (m_x, .inr (11, [.int 0, .ref m_q1, .int 0, .int 0, .int 0, .int 0, .int 0, .int 0, .int 0, .int 0, .int 0, .int 0, .long 0, .int 0, .ref m_q3, .ref m_q5, .ref m_q7, .ref m_q9, .ref m_q11, .ref m_q13, .ref m_q15, .ref m_q17, .ref m_q19, .int 0, .int 0, .int 0, .int 0, .int (-1), .int (-1), .long 0, .long 0, .ref m_q21, .ref m_q23, .int 0, .int (-1), .int 0, .ref m_q25, .int 0, .ref m_q27, .ref m_q29, .int 0, .int 0, .ref m_q31, .int 0, .int 0, .int 0, .int 0]))]) (w1 := []) hP hD [] [0, 1, 2] rfl rfl (by decide) (by decide) hk1 hFc hP1 hD1
    generalize H1 = H at hP hS ⊢
    clear hPc hDc hKc hFc hP1 hD1 hK1 hk1 hz1
    have hP : va_P (dC, dI) vwCl [(x_x, .inr (10, [.ref x_q1, .ref x_q4, .ref x_q10, .ref x_q16, .ref x_q17, .ref x_q23, .ref x_q27, .ref x_q31, .ref x_q32, .ref x_q49, .ref x_q51, .ref x_q53, .ref x_q78, .ref x_q89, .ref x_q96, .int (-1), .int 0, .int (-1), .int (-1)])), (x_q78, .inl (x_y79, 8, .inl (upd (upd (upd (upd (upd (upd (upd (upd (fun _ => 0) 0 (-1)) 1 (-1)) 2 (-1)) 3 (-1)) 4 (-1)) 5 (-1)) 6 (-1)) 7 (-1)))), (m_x, .inr (11, [.int 0, .ref m_q1, .int 0, .int 0, .int 0, .int 0, .int 0, .int 0, .int 0, .int 0, .int 0, .int 0, .long 0, .int 0, .ref m_q3, .ref m_q5, .ref m_q7, .ref m_q9, .ref m_q11, .ref m_q13, .ref m_q15, .ref m_q17, .ref m_q19, .int 0, .int 0, .int 0, .int 0, .int (-1), .int (-1), .long 0, .long 0, .ref m_q21, .ref m_q23, .int 0, .int (-1), .int 0, .ref m_q25, .int 0, .ref m_q27, .ref m_q29, .int 0, .int 0, .ref m_q31, .int 0, .int 0, .int 0, .int 0]))] H := hP
    have hD : va_D A [(x_x, .inr (10, [.ref x_q1, .ref x_q4, .ref x_q10, .ref x_q16, .ref x_q17, .ref x_q23, .ref x_q27, .ref x_q31, .ref x_q32, .ref x_q49, .ref x_q51, .ref x_q53, .ref x_q78, .ref x_q89, .ref x_q96, .int (-1), .int 0, .int (-1), .int (-1)])), (x_q78, .inl (x_y79, 8, .inl (upd (upd (upd (upd (upd (upd (upd (upd (fun _ => 0) 0 (-1)) 1 (-1)) 2 (-1)) 3 (-1)) 4 (-1)) 5 (-1)) 6 (-1)) 7 (-1)))), (m_x, .inr (11, [.int 0, .ref m_q1, .int 0, .int 0, .int 0, .int 0, .int 0, .int 0, .int 0, .int 0, .int 0, .int 0, .long 0, .int 0, .ref m_q3, .ref m_q5, .ref m_q7, .ref m_q9, .ref m_q11, .ref m_q13, .ref m_q15, .ref m_q17, .ref m_q19, .int 0, .int 0, .int 0, .int 0, .int (-1), .int (-1), .long 0, .long 0, .ref m_q21, .ref m_q23, .int 0, .int (-1), .int 0, .ref m_q25, .int 0, .ref m_q27, .ref m_q29, .int 0, .int 0, .ref m_q31, .int 0, .int 0, .int 0, .int 0]))] := hD
    refine zz_top (v := (-1)) hw ?_
    refine lv_aload_n hx hb dL_law_1098 rfl (lv_at hl 2 rfl) ?_
    refine lv_aload_n hx hb dL_law_1099 rfl (lv_at hl 4 rfl) ?_
    refine lv_iload hx hb dL_law_1100 (lv_at hl 0 rfl) ?_
    refine lv_iconst (v := 1) hx hb dL_law_1102 (by decide) ?_
    refine lv_iadd hx hb dL_law_1103 ?_
    refine zz_top (v := 1) (by decide) ?_
    refine va_sld hx hb hX hbl hbA hS (i := 1) (zz_in (by decide)) dL_law_1104 ?_
    refine zz_top (v := a1) (x1) ?_
    have hPc := hP.sub (ws' := [(m_x, .inr (11, [.int 0, .ref m_q1, .int 0, .int 0, .int 0, .int 0, .int 0, .int 0, .int 0, .int 0, .int 0, .int 0, .long 0, .int 0, .ref m_q3, .ref m_q5, .ref m_q7, .ref m_q9, .ref m_q11, .ref m_q13, .ref m_q15, .ref m_q17, .ref m_q19, .int 0, .int 0, .int 0, .int 0, .int (-1), .int (-1), .long 0, .long 0, .ref m_q21, .ref m_q23, .int 0, .int (-1), .int 0, .ref m_q25, .int 0, .ref m_q27, .ref m_q29, .int 0, .int 0, .ref m_q31, .int 0, .int 0, .int 0, .int 0]))]) [2] rfl
    have hDc := hD.sub (ws' := [(m_x, .inr (11, [.int 0, .ref m_q1, .int 0, .int 0, .int 0, .int 0, .int 0, .int 0, .int 0, .int 0, .int 0, .int 0, .long 0, .int 0, .ref m_q3, .ref m_q5, .ref m_q7, .ref m_q9, .ref m_q11, .ref m_q13, .ref m_q15, .ref m_q17, .ref m_q19, .int 0, .int 0, .int 0, .int 0, .int (-1), .int (-1), .long 0, .long 0, .ref m_q21, .ref m_q23, .int 0, .int (-1), .int 0, .ref m_q25, .int 0, .ref m_q27, .ref m_q29, .int 0, .int 0, .ref m_q31, .int 0, .int 0, .int 0, .int 0]))]) [2] (by decide) rfl
    have hKc := hK.sub (tys' := []) [] rfl
    have hFc := va_free (wc := [(m_x, .inr (11, [.int 0, .ref m_q1, .int 0, .int 0, .int 0, .int 0, .int 0, .int 0, .int 0, .int 0, .int 0, .int 0, .long 0, .int 0, .ref m_q3, .ref m_q5, .ref m_q7, .ref m_q9, .ref m_q11, .ref m_q13, .ref m_q15, .ref m_q17, .ref m_q19, .int 0, .int 0, .int 0, .int 0, .int (-1), .int (-1), .long 0, .long 0, .ref m_q21, .ref m_q23, .int 0, .int (-1), .int 0, .ref m_q25, .int 0, .ref m_q27, .ref m_q29, .int 0, .int 0, .ref m_q31, .int 0, .int 0, .int 0, .int 0]))]) hD hS hA [2] rfl
    refine va_calli (va_runV (As := [.int a1]) (rest := [.int (-1)]) ⟨hx, hb, hml, hown, hts⟩ (k_X12_parted_8 l dC dI ad m_x m_q1 m_q3 m_q5 m_q7 m_q9 m_q11 m_q13 m_q15 m_q17 m_q19 m_q21 m_q23 m_q25 m_q27 m_q29 m_q31 a1 H.size e0_0) (cwV 1 hts gT_X12_parted_134 rfl rfl rfl (by decide +kernel) ⟨Nat.le_of_ble_eq_true rfl, Nat.le_of_ble_eq_true rfl⟩) ⟨fun a U g mk q => ⟨q.1, CP.blind q.2⟩, va_recv hKc hPc (ci := 11) (q0 := 0) rfl rfl, fun U hU hW => ⟨rfl, CP.of hPc hKc hDc hE hS hFc hU hW⟩⟩ rfl rfl hl.1 rfl (lv_room (Nat.le_of_ble_eq_true rfl)) dL_law_1105 ⟨Nat.le_of_ble_eq_true rfl, Nat.le_of_ble_eq_true rfl⟩) hS (fun q _ h => hFc q h) hFc (fun r2 u t H1 locs ht hvm hw hB hz1 hk1 hS => ?_)
    obtain ⟨hP1, hK1, hD1⟩ := hB
    rw [ht] at hP1
    obtain ⟨hP, hD⟩ := va_join (wr := [(x_x, .inr (10, [.ref x_q1, .ref x_q4, .ref x_q10, .ref x_q16, .ref x_q17, .ref x_q23, .ref x_q27, .ref x_q31, .ref x_q32, .ref x_q49, .ref x_q51, .ref x_q53, .ref x_q78, .ref x_q89, .ref x_q96, .int (-1), .int 0, .int (-1), .int (-1)])), (x_q78, .inl (x_y79, 8, .inl (upd (upd (upd (upd (upd (upd (upd (upd (fun _ => 0) 0 (-1)) 1 (-1)) 2 (-1)) 3 (-1)) 4 (-1)) 5 (-1)) 6 (-1)) 7 (-1))))]) (w1 := []) hP hD [2] [0, 1] rfl rfl (by decide) (by decide) hk1 hFc hP1 hD1
    generalize H1 = H at hP hS ⊢
    clear hPc hDc hKc hFc hP1 hD1 hK1 hk1 hz1
    have hP : va_P (dC, dI) vwCl [(x_x, .inr (10, [.ref x_q1, .ref x_q4, .ref x_q10, .ref x_q16, .ref x_q17, .ref x_q23, .ref x_q27, .ref x_q31, .ref x_q32, .ref x_q49, .ref x_q51, .ref x_q53, .ref x_q78, .ref x_q89, .ref x_q96, .int (-1), .int 0, .int (-1), .int (-1)])), (x_q78, .inl (x_y79, 8, .inl (upd (upd (upd (upd (upd (upd (upd (upd (fun _ => 0) 0 (-1)) 1 (-1)) 2 (-1)) 3 (-1)) 4 (-1)) 5 (-1)) 6 (-1)) 7 (-1))))] H := hP
    have hD : va_D A [(x_x, .inr (10, [.ref x_q1, .ref x_q4, .ref x_q10, .ref x_q16, .ref x_q17, .ref x_q23, .ref x_q27, .ref x_q31, .ref x_q32, .ref x_q49, .ref x_q51, .ref x_q53, .ref x_q78, .ref x_q89, .ref x_q96, .int (-1), .int 0, .int (-1), .int (-1)])), (x_q78, .inl (x_y79, 8, .inl (upd (upd (upd (upd (upd (upd (upd (upd (fun _ => 0) 0 (-1)) 1 (-1)) 2 (-1)) 3 (-1)) 4 (-1)) 5 (-1)) 6 (-1)) 7 (-1))))] := hD
    refine zz_top (v := (-1)) hw ?_
    refine lv_icmp_eq (tgt := 1476) hx hb dL_law_1108 (by decide) (fun _ => ?_) (fun c3 => absurd (by decide) c3)
    exact law_end l C0 hA2 hbA hS hl (Nat.le_of_ble_eq_true rfl) (Nat.le_of_ble_eq_true rfl)
  · obtain ⟨a1, x1⟩ : ∃ y : Int32, xs 1 = y := ⟨_, rfl⟩
    rw [x1] at hv
    have e0_0 := hv
    refine lv_aload_n hx hb dL_law_1088 rfl (lv_at hl 3 rfl) ?_
    refine lv_aload_n hx hb dL_law_1089 rfl (lv_at hl 4 rfl) ?_
    refine lv_iload hx hb dL_law_1090 (lv_at hl 0 rfl) ?_
    refine lv_iconst (v := 1) hx hb dL_law_1092 (by decide) ?_
    refine lv_iadd hx hb dL_law_1093 ?_
    refine zz_top (v := 1) (by decide) ?_
    refine va_sld hx hb hX hbl hbA hS (i := 1) (zz_in (by decide)) dL_law_1094 ?_
    refine zz_top (v := a1) (x1) ?_
    have hPc := hP.sub (ws' := []) [] rfl
    have hDc := hD.sub (ws' := []) [] (by decide) rfl
    have hKc := hK.sub (tys' := []) [] rfl
    have hFc := va_free (wc := []) hD hS hA [] rfl
    refine va_calli (va_runV (As := [.int a1]) (rest := []) ⟨hx, hb, hml, hown, hts⟩ (k_X11_parted_9 l dC dI ad x_x a1 H.size e0_0) (cwV 1 hts gT_X11_parted_131 rfl rfl rfl (by decide +kernel) ⟨Nat.le_of_ble_eq_true rfl, Nat.le_of_ble_eq_true rfl⟩) ⟨fun a U g mk q => ⟨q.1, CP.blind q.2⟩, va_recv hK hP (ci := 10) (q0 := 0) rfl rfl, fun U hU hW => ⟨rfl, CP.of hPc hKc hDc hE hS hFc hU hW⟩⟩ rfl rfl hl.1 rfl (lv_room (Nat.le_of_ble_eq_true rfl)) dL_law_1095 ⟨Nat.le_of_ble_eq_true rfl, Nat.le_of_ble_eq_true rfl⟩) hS (fun q _ h => hFc q h) hFc (fun r1 u t H1 locs ht hvm hw hB hz1 hk1 hS => ?_)
    obtain ⟨hP1, hK1, hD1⟩ := hB
    rw [ht] at hP1
    obtain ⟨hP, hD⟩ := va_join (wr := [(x_x, .inr (10, [.ref x_q1, .ref x_q4, .ref x_q10, .ref x_q16, .ref x_q17, .ref x_q23, .ref x_q27, .ref x_q31, .ref x_q32, .ref x_q49, .ref x_q51, .ref x_q53, .ref x_q78, .ref x_q89, .ref x_q96, .int (-1), .int 0, .int (-1), .int (-1)])), (x_q78, .inl (x_y79, 8, .inl (upd (upd (upd (upd (upd (upd (upd (upd (fun _ => 0) 0 (-1)) 1 (-1)) 2 (-1)) 3 (-1)) 4 (-1)) 5 (-1)) 6 (-1)) 7 (-1)))), (m_x, .inr (11, [.int 0, .ref m_q1, .int 0, .int 0, .int 0, .int 0, .int 0, .int 0, .int 0, .int 0, .int 0, .int 0, .long 0, .int 0, .ref m_q3, .ref m_q5, .ref m_q7, .ref m_q9, .ref m_q11, .ref m_q13, .ref m_q15, .ref m_q17, .ref m_q19, .int 0, .int 0, .int 0, .int 0, .int (-1), .int (-1), .long 0, .long 0, .ref m_q21, .ref m_q23, .int 0, .int (-1), .int 0, .ref m_q25, .int 0, .ref m_q27, .ref m_q29, .int 0, .int 0, .ref m_q31, .int 0, .int 0, .int 0, .int 0]))]) (w1 := []) hP hD [] [0, 1, 2] rfl rfl (by decide) (by decide) hk1 hFc hP1 hD1
    generalize H1 = H at hP hS ⊢
    clear hPc hDc hKc hFc hP1 hD1 hK1 hk1 hz1
    have hP : va_P (dC, dI) vwCl [(x_x, .inr (10, [.ref x_q1, .ref x_q4, .ref x_q10, .ref x_q16, .ref x_q17, .ref x_q23, .ref x_q27, .ref x_q31, .ref x_q32, .ref x_q49, .ref x_q51, .ref x_q53, .ref x_q78, .ref x_q89, .ref x_q96, .int (-1), .int 0, .int (-1), .int (-1)])), (x_q78, .inl (x_y79, 8, .inl (upd (upd (upd (upd (upd (upd (upd (upd (fun _ => 0) 0 (-1)) 1 (-1)) 2 (-1)) 3 (-1)) 4 (-1)) 5 (-1)) 6 (-1)) 7 (-1)))), (m_x, .inr (11, [.int 0, .ref m_q1, .int 0, .int 0, .int 0, .int 0, .int 0, .int 0, .int 0, .int 0, .int 0, .int 0, .long 0, .int 0, .ref m_q3, .ref m_q5, .ref m_q7, .ref m_q9, .ref m_q11, .ref m_q13, .ref m_q15, .ref m_q17, .ref m_q19, .int 0, .int 0, .int 0, .int 0, .int (-1), .int (-1), .long 0, .long 0, .ref m_q21, .ref m_q23, .int 0, .int (-1), .int 0, .ref m_q25, .int 0, .ref m_q27, .ref m_q29, .int 0, .int 0, .ref m_q31, .int 0, .int 0, .int 0, .int 0]))] H := hP
    have hD : va_D A [(x_x, .inr (10, [.ref x_q1, .ref x_q4, .ref x_q10, .ref x_q16, .ref x_q17, .ref x_q23, .ref x_q27, .ref x_q31, .ref x_q32, .ref x_q49, .ref x_q51, .ref x_q53, .ref x_q78, .ref x_q89, .ref x_q96, .int (-1), .int 0, .int (-1), .int (-1)])), (x_q78, .inl (x_y79, 8, .inl (upd (upd (upd (upd (upd (upd (upd (upd (fun _ => 0) 0 (-1)) 1 (-1)) 2 (-1)) 3 (-1)) 4 (-1)) 5 (-1)) 6 (-1)) 7 (-1)))), (m_x, .inr (11, [.int 0, .ref m_q1, .int 0, .int 0, .int 0, .int 0, .int 0, .int 0, .int 0, .int 0, .int 0, .int 0, .long 0, .int 0, .ref m_q3, .ref m_q5, .ref m_q7, .ref m_q9, .ref m_q11, .ref m_q13, .ref m_q15, .ref m_q17, .ref m_q19, .int 0, .int 0, .int 0, .int 0, .int (-1), .int (-1), .long 0, .long 0, .ref m_q21, .ref m_q23, .int 0, .int (-1), .int 0, .ref m_q25, .int 0, .ref m_q27, .ref m_q29, .int 0, .int 0, .ref m_q31, .int 0, .int 0, .int 0, .int 0]))] := hD
    refine zz_top (v := (-1)) hw ?_
    refine lv_aload_n hx hb dL_law_1098 rfl (lv_at hl 2 rfl) ?_
    refine lv_aload_n hx hb dL_law_1099 rfl (lv_at hl 4 rfl) ?_
    refine lv_iload hx hb dL_law_1100 (lv_at hl 0 rfl) ?_
    refine lv_iconst (v := 1) hx hb dL_law_1102 (by decide) ?_
    refine lv_iadd hx hb dL_law_1103 ?_
    refine zz_top (v := 1) (by decide) ?_
    refine va_sld hx hb hX hbl hbA hS (i := 1) (zz_in (by decide)) dL_law_1104 ?_
    refine zz_top (v := a1) (x1) ?_
    have hPc := hP.sub (ws' := [(m_x, .inr (11, [.int 0, .ref m_q1, .int 0, .int 0, .int 0, .int 0, .int 0, .int 0, .int 0, .int 0, .int 0, .int 0, .long 0, .int 0, .ref m_q3, .ref m_q5, .ref m_q7, .ref m_q9, .ref m_q11, .ref m_q13, .ref m_q15, .ref m_q17, .ref m_q19, .int 0, .int 0, .int 0, .int 0, .int (-1), .int (-1), .long 0, .long 0, .ref m_q21, .ref m_q23, .int 0, .int (-1), .int 0, .ref m_q25, .int 0, .ref m_q27, .ref m_q29, .int 0, .int 0, .ref m_q31, .int 0, .int 0, .int 0, .int 0]))]) [2] rfl
    have hDc := hD.sub (ws' := [(m_x, .inr (11, [.int 0, .ref m_q1, .int 0, .int 0, .int 0, .int 0, .int 0, .int 0, .int 0, .int 0, .int 0, .int 0, .long 0, .int 0, .ref m_q3, .ref m_q5, .ref m_q7, .ref m_q9, .ref m_q11, .ref m_q13, .ref m_q15, .ref m_q17, .ref m_q19, .int 0, .int 0, .int 0, .int 0, .int (-1), .int (-1), .long 0, .long 0, .ref m_q21, .ref m_q23, .int 0, .int (-1), .int 0, .ref m_q25, .int 0, .ref m_q27, .ref m_q29, .int 0, .int 0, .ref m_q31, .int 0, .int 0, .int 0, .int 0]))]) [2] (by decide) rfl
    have hKc := hK.sub (tys' := []) [] rfl
    have hFc := va_free (wc := [(m_x, .inr (11, [.int 0, .ref m_q1, .int 0, .int 0, .int 0, .int 0, .int 0, .int 0, .int 0, .int 0, .int 0, .int 0, .long 0, .int 0, .ref m_q3, .ref m_q5, .ref m_q7, .ref m_q9, .ref m_q11, .ref m_q13, .ref m_q15, .ref m_q17, .ref m_q19, .int 0, .int 0, .int 0, .int 0, .int (-1), .int (-1), .long 0, .long 0, .ref m_q21, .ref m_q23, .int 0, .int (-1), .int 0, .ref m_q25, .int 0, .ref m_q27, .ref m_q29, .int 0, .int 0, .ref m_q31, .int 0, .int 0, .int 0, .int 0]))]) hD hS hA [2] rfl
    refine va_calli (va_runV (As := [.int a1]) (rest := [.int (-1)]) ⟨hx, hb, hml, hown, hts⟩ (k_X12_parted_9 l dC dI ad m_x m_q1 m_q3 m_q5 m_q7 m_q9 m_q11 m_q13 m_q15 m_q17 m_q19 m_q21 m_q23 m_q25 m_q27 m_q29 m_q31 a1 H.size e0_0) (cwV 1 hts gT_X12_parted_134 rfl rfl rfl (by decide +kernel) ⟨Nat.le_of_ble_eq_true rfl, Nat.le_of_ble_eq_true rfl⟩) ⟨fun a U g mk q => ⟨q.1, CP.blind q.2⟩, va_recv hKc hPc (ci := 11) (q0 := 0) rfl rfl, fun U hU hW => ⟨rfl, CP.of hPc hKc hDc hE hS hFc hU hW⟩⟩ rfl rfl hl.1 rfl (lv_room (Nat.le_of_ble_eq_true rfl)) dL_law_1105 ⟨Nat.le_of_ble_eq_true rfl, Nat.le_of_ble_eq_true rfl⟩) hS (fun q _ h => hFc q h) hFc (fun r2 u t H1 locs ht hvm hw hB hz1 hk1 hS => ?_)
    obtain ⟨hP1, hK1, hD1⟩ := hB
    rw [ht] at hP1
    obtain ⟨hP, hD⟩ := va_join (wr := [(x_x, .inr (10, [.ref x_q1, .ref x_q4, .ref x_q10, .ref x_q16, .ref x_q17, .ref x_q23, .ref x_q27, .ref x_q31, .ref x_q32, .ref x_q49, .ref x_q51, .ref x_q53, .ref x_q78, .ref x_q89, .ref x_q96, .int (-1), .int 0, .int (-1), .int (-1)])), (x_q78, .inl (x_y79, 8, .inl (upd (upd (upd (upd (upd (upd (upd (upd (fun _ => 0) 0 (-1)) 1 (-1)) 2 (-1)) 3 (-1)) 4 (-1)) 5 (-1)) 6 (-1)) 7 (-1))))]) (w1 := []) hP hD [2] [0, 1] rfl rfl (by decide) (by decide) hk1 hFc hP1 hD1
    generalize H1 = H at hP hS ⊢
    clear hPc hDc hKc hFc hP1 hD1 hK1 hk1 hz1
    have hP : va_P (dC, dI) vwCl [(x_x, .inr (10, [.ref x_q1, .ref x_q4, .ref x_q10, .ref x_q16, .ref x_q17, .ref x_q23, .ref x_q27, .ref x_q31, .ref x_q32, .ref x_q49, .ref x_q51, .ref x_q53, .ref x_q78, .ref x_q89, .ref x_q96, .int (-1), .int 0, .int (-1), .int (-1)])), (x_q78, .inl (x_y79, 8, .inl (upd (upd (upd (upd (upd (upd (upd (upd (fun _ => 0) 0 (-1)) 1 (-1)) 2 (-1)) 3 (-1)) 4 (-1)) 5 (-1)) 6 (-1)) 7 (-1))))] H := hP
    have hD : va_D A [(x_x, .inr (10, [.ref x_q1, .ref x_q4, .ref x_q10, .ref x_q16, .ref x_q17, .ref x_q23, .ref x_q27, .ref x_q31, .ref x_q32, .ref x_q49, .ref x_q51, .ref x_q53, .ref x_q78, .ref x_q89, .ref x_q96, .int (-1), .int 0, .int (-1), .int (-1)])), (x_q78, .inl (x_y79, 8, .inl (upd (upd (upd (upd (upd (upd (upd (upd (fun _ => 0) 0 (-1)) 1 (-1)) 2 (-1)) 3 (-1)) 4 (-1)) 5 (-1)) 6 (-1)) 7 (-1))))] := hD
    refine zz_top (v := (-1)) hw ?_
    refine lv_icmp_eq (tgt := 1476) hx hb dL_law_1108 (by decide) (fun _ => ?_) (fun c3 => absurd (by decide) c3)
    exact law_end l C0 hA2 hbA hS hl (Nat.le_of_ble_eq_true rfl) (Nat.le_of_ble_eq_true rfl)
set_option maxHeartbeats 4000000 in
set_option maxRecDepth 100000 in
theorem lawc_partedGood {p : Program} {e : Env} {s : State} {m : MethodId} {below : List Frame} {meth : Method} {c : Code} (l : Launch) {b : Nat} {xs : Nat → Int32} (C0 : lw_At p s m meth c b 6 xs) (dC : Nat → ClassId) (dI : Nat → Nat → Nat) (ad : Nat → Nat) (A : Nat → Prop) (hA : ∀ q : Nat, s.heap.size ≤ q → A q) (hA2 : ∀ q : Nat, A q → s.heap.size ≤ q) (hbA : ¬ A b) (x_x m_x o_q x_q1 x_q4 x_q10 x_q16 x_q17 x_q23 x_q27 x_q31 x_q32 x_q49 x_q51 x_q53 x_q78 x_q89 x_q96 m_q1 m_q3 m_q5 m_q7 m_q9 m_q11 m_q13 m_q15 m_q17 m_q19 m_q21 m_q23 m_q25 m_q27 m_q29 m_q31 : Nat) (H : Heap) (locs : List Loc) (ls : Array Slot) (hK : va_K (dC, dI) vwCl [] s) (hP : va_P (dC, dI) vwCl [(x_x, .inr (10, [.ref x_q1, .ref x_q4, .ref x_q10, .ref x_q16, .ref x_q17, .ref x_q23, .ref x_q27, .ref x_q31, .ref x_q32, .ref x_q49, .ref x_q51, .ref x_q53, .ref x_q78, .ref x_q89, .ref x_q96, .int (-1), .int 0, .int (-1), .int (-1)])), (m_x, .inr (11, [.int 0, .ref m_q1, .int 0, .int 0, .int 0, .int 0, .int 0, .int 0, .int 0, .int 0, .int 0, .int 0, .long 0, .int 0, .ref m_q3, .ref m_q5, .ref m_q7, .ref m_q9, .ref m_q11, .ref m_q13, .ref m_q15, .ref m_q17, .ref m_q19, .int 0, .int 0, .int 0, .int 0, .int (-1), .int (-1), .long 0, .long 0, .ref m_q21, .ref m_q23, .int 0, .int (-1), .int 0, .ref m_q25, .int 0, .ref m_q27, .ref m_q29, .int 0, .int 0, .ref m_q31, .int 0, .int 0, .int 0, .int 0]))] H) (hD : va_D A [(x_x, .inr (10, [.ref x_q1, .ref x_q4, .ref x_q10, .ref x_q16, .ref x_q17, .ref x_q23, .ref x_q27, .ref x_q31, .ref x_q32, .ref x_q49, .ref x_q51, .ref x_q53, .ref x_q78, .ref x_q89, .ref x_q96, .int (-1), .int 0, .int (-1), .int (-1)])), (m_x, .inr (11, [.int 0, .ref m_q1, .int 0, .int 0, .int 0, .int 0, .int 0, .int 0, .int 0, .int 0, .int 0, .int 0, .long 0, .int 0, .ref m_q3, .ref m_q5, .ref m_q7, .ref m_q9, .ref m_q11, .ref m_q13, .ref m_q15, .ref m_q17, .ref m_q19, .int 0, .int 0, .int 0, .int 0, .int (-1), .int (-1), .long 0, .long 0, .ref m_q21, .ref m_q23, .int 0, .int (-1), .int 0, .ref m_q25, .int 0, .ref m_q27, .ref m_q29, .int 0, .int 0, .ref m_q31, .int 0, .int 0, .int 0, .int 0]))]) (hS : va_S A s.heap H locs) (hE : EV ad A s s.heap) (hl : lv_has ls 8 [(4, .int 0), (3, .ref o_q), (2, .ref m_x), (1, .ref x_x), (0, .ref b)]) : W p l e room_1 s m #[Value.ref b] below meth c H locs 314 7149 (lw_Z below #[Value.ref b] s) (F0 m 1113 ls []) := by
  obtain ⟨hx, hb, hr, hml, hown, hts0, hX, hbl, hlocks, hgv⟩ := id C0
  have hts : ∀ w ∈ lw_tbl, w.before #[Value.ref b] s = true := hts0
  refine lv_aload_n hx hb dL_law_1113 rfl (lv_at hl 3 rfl) ?_
  have hPc := hP.sub (ws' := [(x_x, .inr (10, [.ref x_q1, .ref x_q4, .ref x_q10, .ref x_q16, .ref x_q17, .ref x_q23, .ref x_q27, .ref x_q31, .ref x_q32, .ref x_q49, .ref x_q51, .ref x_q53, .ref x_q78, .ref x_q89, .ref x_q96, .int (-1), .int 0, .int (-1), .int (-1)]))]) [0] rfl
  have hDc := hD.sub (ws' := [(x_x, .inr (10, [.ref x_q1, .ref x_q4, .ref x_q10, .ref x_q16, .ref x_q17, .ref x_q23, .ref x_q27, .ref x_q31, .ref x_q32, .ref x_q49, .ref x_q51, .ref x_q53, .ref x_q78, .ref x_q89, .ref x_q96, .int (-1), .int 0, .int (-1), .int (-1)]))]) [0] (by decide) rfl
  have hKc := hK.sub (tys' := []) [] rfl
  have hFc := va_free (wc := [(x_x, .inr (10, [.ref x_q1, .ref x_q4, .ref x_q10, .ref x_q16, .ref x_q17, .ref x_q23, .ref x_q27, .ref x_q31, .ref x_q32, .ref x_q49, .ref x_q51, .ref x_q53, .ref x_q78, .ref x_q89, .ref x_q96, .int (-1), .int 0, .int (-1), .int (-1)]))]) hD hS hA [0] rfl
  refine va_calli (va_runV (As := []) (rest := []) ⟨hx, hb, hml, hown, hts⟩ (k_X11_partedGood l dC dI ad x_x x_q1 x_q4 x_q10 x_q16 x_q17 x_q23 x_q27 x_q31 x_q32 x_q49 x_q51 x_q53 x_q78 x_q89 x_q96 H.size) (cwV 0 hts gT_X11_partedGood_135 rfl rfl rfl (by decide +kernel) ⟨Nat.le_of_ble_eq_true rfl, Nat.le_of_ble_eq_true rfl⟩) ⟨fun a U g mk q => ⟨q.1, CP.blind q.2⟩, va_recv hKc hPc (ci := 10) (q0 := 0) rfl rfl, fun U hU hW => ⟨rfl, CP.of hPc hKc hDc hE hS hFc hU hW⟩⟩ rfl rfl hl.1 rfl (lv_room (Nat.le_of_ble_eq_true rfl)) dL_law_1114 ⟨Nat.le_of_ble_eq_true rfl, Nat.le_of_ble_eq_true rfl⟩) hS (fun q _ h => hFc q h) hFc (fun r1 u t H1 locs ht hvm hw hB hz1 hk1 hS => ?_)
  obtain ⟨hP1, hK1, hD1⟩ := hB
  rw [ht] at hP1
  obtain ⟨hP, hD⟩ := va_join (wr := [(m_x, .inr (11, [.int 0, .ref m_q1, .int 0, .int 0, .int 0, .int 0, .int 0, .int 0, .int 0, .int 0, .int 0, .int 0, .long 0, .int 0, .ref m_q3, .ref m_q5, .ref m_q7, .ref m_q9, .ref m_q11, .ref m_q13, .ref m_q15, .ref m_q17, .ref m_q19, .int 0, .int 0, .int 0, .int 0, .int (-1), .int (-1), .long 0, .long 0, .ref m_q21, .ref m_q23, .int 0, .int (-1), .int 0, .ref m_q25, .int 0, .ref m_q27, .ref m_q29, .int 0, .int 0, .ref m_q31, .int 0, .int 0, .int 0, .int 0]))]) (w1 := []) hP hD [0] [1] rfl rfl (by decide) (by decide) hk1 hFc hP1 hD1
  generalize H1 = H at hP hS ⊢
  clear hPc hDc hKc hFc hP1 hD1 hK1 hk1 hz1
  have hP : va_P (dC, dI) vwCl [(m_x, .inr (11, [.int 0, .ref m_q1, .int 0, .int 0, .int 0, .int 0, .int 0, .int 0, .int 0, .int 0, .int 0, .int 0, .long 0, .int 0, .ref m_q3, .ref m_q5, .ref m_q7, .ref m_q9, .ref m_q11, .ref m_q13, .ref m_q15, .ref m_q17, .ref m_q19, .int 0, .int 0, .int 0, .int 0, .int (-1), .int (-1), .long 0, .long 0, .ref m_q21, .ref m_q23, .int 0, .int (-1), .int 0, .ref m_q25, .int 0, .ref m_q27, .ref m_q29, .int 0, .int 0, .ref m_q31, .int 0, .int 0, .int 0, .int 0]))] H := hP
  have hD : va_D A [(m_x, .inr (11, [.int 0, .ref m_q1, .int 0, .int 0, .int 0, .int 0, .int 0, .int 0, .int 0, .int 0, .int 0, .int 0, .long 0, .int 0, .ref m_q3, .ref m_q5, .ref m_q7, .ref m_q9, .ref m_q11, .ref m_q13, .ref m_q15, .ref m_q17, .ref m_q19, .int 0, .int 0, .int 0, .int 0, .int (-1), .int (-1), .long 0, .long 0, .ref m_q21, .ref m_q23, .int 0, .int (-1), .int 0, .ref m_q25, .int 0, .ref m_q27, .ref m_q29, .int 0, .int 0, .ref m_q31, .int 0, .int 0, .int 0, .int 0]))] := hD
  refine zz_top (v := (-1)) hw ?_
  refine lv_aload_n hx hb dL_law_1117 rfl (lv_at hl 2 rfl) ?_
  have hPc := hP.sub (ws' := [(m_x, .inr (11, [.int 0, .ref m_q1, .int 0, .int 0, .int 0, .int 0, .int 0, .int 0, .int 0, .int 0, .int 0, .int 0, .long 0, .int 0, .ref m_q3, .ref m_q5, .ref m_q7, .ref m_q9, .ref m_q11, .ref m_q13, .ref m_q15, .ref m_q17, .ref m_q19, .int 0, .int 0, .int 0, .int 0, .int (-1), .int (-1), .long 0, .long 0, .ref m_q21, .ref m_q23, .int 0, .int (-1), .int 0, .ref m_q25, .int 0, .ref m_q27, .ref m_q29, .int 0, .int 0, .ref m_q31, .int 0, .int 0, .int 0, .int 0]))]) [0] rfl
  have hDc := hD.sub (ws' := [(m_x, .inr (11, [.int 0, .ref m_q1, .int 0, .int 0, .int 0, .int 0, .int 0, .int 0, .int 0, .int 0, .int 0, .int 0, .long 0, .int 0, .ref m_q3, .ref m_q5, .ref m_q7, .ref m_q9, .ref m_q11, .ref m_q13, .ref m_q15, .ref m_q17, .ref m_q19, .int 0, .int 0, .int 0, .int 0, .int (-1), .int (-1), .long 0, .long 0, .ref m_q21, .ref m_q23, .int 0, .int (-1), .int 0, .ref m_q25, .int 0, .ref m_q27, .ref m_q29, .int 0, .int 0, .ref m_q31, .int 0, .int 0, .int 0, .int 0]))]) [0] (by decide) rfl
  have hKc := hK.sub (tys' := []) [] rfl
  have hFc := va_free (wc := [(m_x, .inr (11, [.int 0, .ref m_q1, .int 0, .int 0, .int 0, .int 0, .int 0, .int 0, .int 0, .int 0, .int 0, .int 0, .long 0, .int 0, .ref m_q3, .ref m_q5, .ref m_q7, .ref m_q9, .ref m_q11, .ref m_q13, .ref m_q15, .ref m_q17, .ref m_q19, .int 0, .int 0, .int 0, .int 0, .int (-1), .int (-1), .long 0, .long 0, .ref m_q21, .ref m_q23, .int 0, .int (-1), .int 0, .ref m_q25, .int 0, .ref m_q27, .ref m_q29, .int 0, .int 0, .ref m_q31, .int 0, .int 0, .int 0, .int 0]))]) hD hS hA [0] rfl
  refine va_calli (va_runV (As := []) (rest := [.int (-1)]) ⟨hx, hb, hml, hown, hts⟩ (k_X12_partedGood l dC dI ad m_x m_q1 m_q3 m_q5 m_q7 m_q9 m_q11 m_q13 m_q15 m_q17 m_q19 m_q21 m_q23 m_q25 m_q27 m_q29 m_q31 H.size) (cwV 0 hts gT_X12_partedGood_138 rfl rfl rfl (by decide +kernel) ⟨Nat.le_of_ble_eq_true rfl, Nat.le_of_ble_eq_true rfl⟩) ⟨fun a U g mk q => ⟨q.1, CP.blind q.2⟩, va_recv hKc hPc (ci := 11) (q0 := 0) rfl rfl, fun U hU hW => ⟨rfl, CP.of hPc hKc hDc hE hS hFc hU hW⟩⟩ rfl rfl hl.1 rfl (lv_room (Nat.le_of_ble_eq_true rfl)) dL_law_1118 ⟨Nat.le_of_ble_eq_true rfl, Nat.le_of_ble_eq_true rfl⟩) hS (fun q _ h => hFc q h) hFc (fun r2 u t H1 locs ht hvm hw hB hz1 hk1 hS => ?_)
  obtain ⟨hP1, hK1, hD1⟩ := hB
  rw [ht] at hP1
  obtain ⟨hP, hD⟩ := va_join (wr := []) (w1 := []) hP hD [0] [] rfl rfl (by decide) (by decide) hk1 hFc hP1 hD1
  generalize H1 = H at hP hS ⊢
  clear hPc hDc hKc hFc hP1 hD1 hK1 hk1 hz1
  have hP : va_P (dC, dI) vwCl [] H := hP
  have hD : va_D A [] := hD
  refine zz_top (v := (-1)) hw ?_
  refine lv_icmp_eq (tgt := 1476) hx hb dL_law_1121 (by decide) (fun _ => ?_) (fun c3 => absurd (by decide) c3)
  exact law_end l C0 hA2 hbA hS hl (Nat.le_of_ble_eq_true rfl) (Nat.le_of_ble_eq_true rfl)
set_option maxHeartbeats 4000000 in
set_option maxRecDepth 100000 in
theorem lawc_tracks {p : Program} {e : Env} {s : State} {m : MethodId} {below : List Frame} {meth : Method} {c : Code} (l : Launch) {b : Nat} {xs : Nat → Int32} (C0 : lw_At p s m meth c b 6 xs) (dC : Nat → ClassId) (dI : Nat → Nat → Nat) (ad : Nat → Nat) (A : Nat → Prop) (hA : ∀ q : Nat, s.heap.size ≤ q → A q) (hA2 : ∀ q : Nat, A q → s.heap.size ≤ q) (hbA : ¬ A b) (x_x m_x o_q x_q1 x_q4 x_q10 x_q16 x_q17 x_q23 x_q27 x_q31 x_q32 x_q49 x_q51 x_q53 x_q78 x_q89 x_q96 x_q2 m_q1 m_q3 m_q5 m_q7 m_q9 m_q11 m_q13 m_q15 m_q17 m_q19 m_q21 m_q23 m_q25 m_q27 m_q29 m_q31 : Nat) (H : Heap) (locs : List Loc) (ls : Array Slot) (hK : va_K (dC, dI) vwCl [] s) (hP : va_P (dC, dI) vwCl [(x_x, .inr (10, [.ref x_q1, .ref x_q4, .ref x_q10, .ref x_q16, .ref x_q17, .ref x_q23, .ref x_q27, .ref x_q31, .ref x_q32, .ref x_q49, .ref x_q51, .ref x_q53, .ref x_q78, .ref x_q89, .ref x_q96, .int (-1), .int 0, .int (-1), .int (-1)])), (x_q1, .inr (9, [.ref x_q2, .int 0, .int 0, .int 0, .int 0, .int 0, .int 0, .ref (ad 25), .long 0, .int 0, .long 0, .int 0, .int 0, .int 0, .int 0])), (m_x, .inr (11, [.int 0, .ref m_q1, .int 0, .int 0, .int 0, .int 0, .int 0, .int 0, .int 0, .int 0, .int 0, .int 0, .long 0, .int 0, .ref m_q3, .ref m_q5, .ref m_q7, .ref m_q9, .ref m_q11, .ref m_q13, .ref m_q15, .ref m_q17, .ref m_q19, .int 0, .int 0, .int 0, .int 0, .int (-1), .int (-1), .long 0, .long 0, .ref m_q21, .ref m_q23, .int 0, .int (-1), .int 0, .ref m_q25, .int 0, .ref m_q27, .ref m_q29, .int 0, .int 0, .ref m_q31, .int 0, .int 0, .int 0, .int 0]))] H) (hD : va_D A [(x_x, .inr (10, [.ref x_q1, .ref x_q4, .ref x_q10, .ref x_q16, .ref x_q17, .ref x_q23, .ref x_q27, .ref x_q31, .ref x_q32, .ref x_q49, .ref x_q51, .ref x_q53, .ref x_q78, .ref x_q89, .ref x_q96, .int (-1), .int 0, .int (-1), .int (-1)])), (x_q1, .inr (9, [.ref x_q2, .int 0, .int 0, .int 0, .int 0, .int 0, .int 0, .ref (ad 25), .long 0, .int 0, .long 0, .int 0, .int 0, .int 0, .int 0])), (m_x, .inr (11, [.int 0, .ref m_q1, .int 0, .int 0, .int 0, .int 0, .int 0, .int 0, .int 0, .int 0, .int 0, .int 0, .long 0, .int 0, .ref m_q3, .ref m_q5, .ref m_q7, .ref m_q9, .ref m_q11, .ref m_q13, .ref m_q15, .ref m_q17, .ref m_q19, .int 0, .int 0, .int 0, .int 0, .int (-1), .int (-1), .long 0, .long 0, .ref m_q21, .ref m_q23, .int 0, .int (-1), .int 0, .ref m_q25, .int 0, .ref m_q27, .ref m_q29, .int 0, .int 0, .ref m_q31, .int 0, .int 0, .int 0, .int 0]))]) (hS : va_S A s.heap H locs) (hE : EV ad A s s.heap) (hl : lv_has ls 8 [(4, .int 0), (3, .ref o_q), (2, .ref m_x), (1, .ref x_x), (0, .ref b)]) : W p l e room_1 s m #[Value.ref b] below meth c H locs 314 7149 (lw_Z below #[Value.ref b] s) (F0 m 1126 ls []) := by
  obtain ⟨hx, hb, hr, hml, hown, hts0, hX, hbl, hlocks, hgv⟩ := id C0
  have hts : ∀ w ∈ lw_tbl, w.before #[Value.ref b] s = true := hts0
  refine lv_aload_n hx hb dL_law_1126 rfl (lv_at hl 3 rfl) ?_
  have hPc := hP.sub (ws' := [(x_x, .inr (10, [.ref x_q1, .ref x_q4, .ref x_q10, .ref x_q16, .ref x_q17, .ref x_q23, .ref x_q27, .ref x_q31, .ref x_q32, .ref x_q49, .ref x_q51, .ref x_q53, .ref x_q78, .ref x_q89, .ref x_q96, .int (-1), .int 0, .int (-1), .int (-1)])), (x_q1, .inr (9, [.ref x_q2, .int 0, .int 0, .int 0, .int 0, .int 0, .int 0, .ref (ad 25), .long 0, .int 0, .long 0, .int 0, .int 0, .int 0, .int 0]))]) [0, 1] rfl
  have hDc := hD.sub (ws' := [(x_x, .inr (10, [.ref x_q1, .ref x_q4, .ref x_q10, .ref x_q16, .ref x_q17, .ref x_q23, .ref x_q27, .ref x_q31, .ref x_q32, .ref x_q49, .ref x_q51, .ref x_q53, .ref x_q78, .ref x_q89, .ref x_q96, .int (-1), .int 0, .int (-1), .int (-1)])), (x_q1, .inr (9, [.ref x_q2, .int 0, .int 0, .int 0, .int 0, .int 0, .int 0, .ref (ad 25), .long 0, .int 0, .long 0, .int 0, .int 0, .int 0, .int 0]))]) [0, 1] (by decide) rfl
  have hKc := hK.sub (tys' := []) [] rfl
  have hFc := va_free (wc := [(x_x, .inr (10, [.ref x_q1, .ref x_q4, .ref x_q10, .ref x_q16, .ref x_q17, .ref x_q23, .ref x_q27, .ref x_q31, .ref x_q32, .ref x_q49, .ref x_q51, .ref x_q53, .ref x_q78, .ref x_q89, .ref x_q96, .int (-1), .int 0, .int (-1), .int (-1)])), (x_q1, .inr (9, [.ref x_q2, .int 0, .int 0, .int 0, .int 0, .int 0, .int 0, .ref (ad 25), .long 0, .int 0, .long 0, .int 0, .int 0, .int 0, .int 0]))]) hD hS hA [0, 1] rfl
  refine va_calli (va_runV (As := []) (rest := []) ⟨hx, hb, hml, hown, hts⟩ (k_X11_tracks l dC dI ad x_x x_q1 x_q4 x_q10 x_q16 x_q17 x_q23 x_q27 x_q31 x_q32 x_q49 x_q51 x_q53 x_q78 x_q89 x_q96 x_q2 H.size) (cwV 0 hts gT_X11_tracks_139 rfl rfl rfl (by decide +kernel) ⟨Nat.le_of_ble_eq_true rfl, Nat.le_of_ble_eq_true rfl⟩) ⟨fun a U g mk q => ⟨q.1, CP.blind q.2⟩, va_recv hKc hPc (ci := 10) (q0 := 0) rfl rfl, fun U hU hW => ⟨rfl, CP.of hPc hKc hDc hE hS hFc hU hW⟩⟩ rfl rfl hl.1 rfl (lv_room (Nat.le_of_ble_eq_true rfl)) dL_law_1127 ⟨Nat.le_of_ble_eq_true rfl, Nat.le_of_ble_eq_true rfl⟩) hS (fun q _ h => hFc q h) hFc (fun r1 u t H1 locs ht hvm hw hB hz1 hk1 hS => ?_)
  obtain ⟨hP1, hK1, hD1⟩ := hB
  rw [ht] at hP1
  obtain ⟨hP, hD⟩ := va_join (wr := [(m_x, .inr (11, [.int 0, .ref m_q1, .int 0, .int 0, .int 0, .int 0, .int 0, .int 0, .int 0, .int 0, .int 0, .int 0, .long 0, .int 0, .ref m_q3, .ref m_q5, .ref m_q7, .ref m_q9, .ref m_q11, .ref m_q13, .ref m_q15, .ref m_q17, .ref m_q19, .int 0, .int 0, .int 0, .int 0, .int (-1), .int (-1), .long 0, .long 0, .ref m_q21, .ref m_q23, .int 0, .int (-1), .int 0, .ref m_q25, .int 0, .ref m_q27, .ref m_q29, .int 0, .int 0, .ref m_q31, .int 0, .int 0, .int 0, .int 0]))]) (w1 := []) hP hD [0, 1] [2] rfl rfl (by decide) (by decide) hk1 hFc hP1 hD1
  generalize H1 = H at hP hS ⊢
  clear hPc hDc hKc hFc hP1 hD1 hK1 hk1 hz1
  have hP : va_P (dC, dI) vwCl [(m_x, .inr (11, [.int 0, .ref m_q1, .int 0, .int 0, .int 0, .int 0, .int 0, .int 0, .int 0, .int 0, .int 0, .int 0, .long 0, .int 0, .ref m_q3, .ref m_q5, .ref m_q7, .ref m_q9, .ref m_q11, .ref m_q13, .ref m_q15, .ref m_q17, .ref m_q19, .int 0, .int 0, .int 0, .int 0, .int (-1), .int (-1), .long 0, .long 0, .ref m_q21, .ref m_q23, .int 0, .int (-1), .int 0, .ref m_q25, .int 0, .ref m_q27, .ref m_q29, .int 0, .int 0, .ref m_q31, .int 0, .int 0, .int 0, .int 0]))] H := hP
  have hD : va_D A [(m_x, .inr (11, [.int 0, .ref m_q1, .int 0, .int 0, .int 0, .int 0, .int 0, .int 0, .int 0, .int 0, .int 0, .int 0, .long 0, .int 0, .ref m_q3, .ref m_q5, .ref m_q7, .ref m_q9, .ref m_q11, .ref m_q13, .ref m_q15, .ref m_q17, .ref m_q19, .int 0, .int 0, .int 0, .int 0, .int (-1), .int (-1), .long 0, .long 0, .ref m_q21, .ref m_q23, .int 0, .int (-1), .int 0, .ref m_q25, .int 0, .ref m_q27, .ref m_q29, .int 0, .int 0, .ref m_q31, .int 0, .int 0, .int 0, .int 0]))] := hD
  refine zz_top (v := (-1)) hw ?_
  refine lv_aload_n hx hb dL_law_1130 rfl (lv_at hl 2 rfl) ?_
  have hPc := hP.sub (ws' := [(m_x, .inr (11, [.int 0, .ref m_q1, .int 0, .int 0, .int 0, .int 0, .int 0, .int 0, .int 0, .int 0, .int 0, .int 0, .long 0, .int 0, .ref m_q3, .ref m_q5, .ref m_q7, .ref m_q9, .ref m_q11, .ref m_q13, .ref m_q15, .ref m_q17, .ref m_q19, .int 0, .int 0, .int 0, .int 0, .int (-1), .int (-1), .long 0, .long 0, .ref m_q21, .ref m_q23, .int 0, .int (-1), .int 0, .ref m_q25, .int 0, .ref m_q27, .ref m_q29, .int 0, .int 0, .ref m_q31, .int 0, .int 0, .int 0, .int 0]))]) [0] rfl
  have hDc := hD.sub (ws' := [(m_x, .inr (11, [.int 0, .ref m_q1, .int 0, .int 0, .int 0, .int 0, .int 0, .int 0, .int 0, .int 0, .int 0, .int 0, .long 0, .int 0, .ref m_q3, .ref m_q5, .ref m_q7, .ref m_q9, .ref m_q11, .ref m_q13, .ref m_q15, .ref m_q17, .ref m_q19, .int 0, .int 0, .int 0, .int 0, .int (-1), .int (-1), .long 0, .long 0, .ref m_q21, .ref m_q23, .int 0, .int (-1), .int 0, .ref m_q25, .int 0, .ref m_q27, .ref m_q29, .int 0, .int 0, .ref m_q31, .int 0, .int 0, .int 0, .int 0]))]) [0] (by decide) rfl
  have hKc := hK.sub (tys' := []) [] rfl
  have hFc := va_free (wc := [(m_x, .inr (11, [.int 0, .ref m_q1, .int 0, .int 0, .int 0, .int 0, .int 0, .int 0, .int 0, .int 0, .int 0, .int 0, .long 0, .int 0, .ref m_q3, .ref m_q5, .ref m_q7, .ref m_q9, .ref m_q11, .ref m_q13, .ref m_q15, .ref m_q17, .ref m_q19, .int 0, .int 0, .int 0, .int 0, .int (-1), .int (-1), .long 0, .long 0, .ref m_q21, .ref m_q23, .int 0, .int (-1), .int 0, .ref m_q25, .int 0, .ref m_q27, .ref m_q29, .int 0, .int 0, .ref m_q31, .int 0, .int 0, .int 0, .int 0]))]) hD hS hA [0] rfl
  refine va_calli (va_runV (As := []) (rest := [.int (-1)]) ⟨hx, hb, hml, hown, hts⟩ (k_X12_tracks l dC dI ad m_x m_q1 m_q3 m_q5 m_q7 m_q9 m_q11 m_q13 m_q15 m_q17 m_q19 m_q21 m_q23 m_q25 m_q27 m_q29 m_q31 H.size) (cwV 0 hts gT_X12_tracks_142 rfl rfl rfl (by decide +kernel) ⟨Nat.le_of_ble_eq_true rfl, Nat.le_of_ble_eq_true rfl⟩) ⟨fun a U g mk q => ⟨q.1, CP.blind q.2⟩, va_recv hKc hPc (ci := 11) (q0 := 0) rfl rfl, fun U hU hW => ⟨rfl, CP.of hPc hKc hDc hE hS hFc hU hW⟩⟩ rfl rfl hl.1 rfl (lv_room (Nat.le_of_ble_eq_true rfl)) dL_law_1131 ⟨Nat.le_of_ble_eq_true rfl, Nat.le_of_ble_eq_true rfl⟩) hS (fun q _ h => hFc q h) hFc (fun r2 u t H1 locs ht hvm hw hB hz1 hk1 hS => ?_)
  obtain ⟨hP1, hK1, hD1⟩ := hB
  rw [ht] at hP1
  obtain ⟨hP, hD⟩ := va_join (wr := []) (w1 := []) hP hD [0] [] rfl rfl (by decide) (by decide) hk1 hFc hP1 hD1
  generalize H1 = H at hP hS ⊢
  clear hPc hDc hKc hFc hP1 hD1 hK1 hk1 hz1
  have hP : va_P (dC, dI) vwCl [] H := hP
  have hD : va_D A [] := hD
  refine zz_top (v := (-1)) hw ?_
  refine lv_icmp_eq (tgt := 1476) hx hb dL_law_1134 (by decide) (fun _ => ?_) (fun c3 => absurd (by decide) c3)
  exact law_end l C0 hA2 hbA hS hl (Nat.le_of_ble_eq_true rfl) (Nat.le_of_ble_eq_true rfl)
set_option maxHeartbeats 4000000 in
set_option maxRecDepth 100000 in
theorem lawc_votes {p : Program} {e : Env} {s : State} {m : MethodId} {below : List Frame} {meth : Method} {c : Code} (l : Launch) {b : Nat} {xs : Nat → Int32} (C0 : lw_At p s m meth c b 6 xs) (dC : Nat → ClassId) (dI : Nat → Nat → Nat) (ad : Nat → Nat) (A : Nat → Prop) (hA : ∀ q : Nat, s.heap.size ≤ q → A q) (hA2 : ∀ q : Nat, A q → s.heap.size ≤ q) (hbA : ¬ A b) (x_x m_x o_q x_q1 x_q4 x_q10 x_q16 x_q17 x_q23 x_q27 x_q31 x_q32 x_q49 x_q51 x_q53 x_q78 x_q89 x_q96 x_q5 x_q6 x_q7 x_q8 x_q9 m_q1 m_q3 m_q5 m_q7 m_q9 m_q11 m_q13 m_q15 m_q17 m_q19 m_q21 m_q23 m_q25 m_q27 m_q29 m_q31 : Nat) (m_y4 : ClassId) (H : Heap) (locs : List Loc) (ls : Array Slot) (hK : va_K (dC, dI) vwCl [(m_y4, .int)] s) (hP : va_P (dC, dI) vwCl [(x_x, .inr (10, [.ref x_q1, .ref x_q4, .ref x_q10, .ref x_q16, .ref x_q17, .ref x_q23, .ref x_q27, .ref x_q31, .ref x_q32, .ref x_q49, .ref x_q51, .ref x_q53, .ref x_q78, .ref x_q89, .ref x_q96, .int (-1), .int 0, .int (-1), .int (-1)])), (x_q4, .inr (5, [.ref x_q5, .ref x_q6, .ref x_q7, .ref x_q8, .ref x_q9, .int 0, .int 0, .int 0, .int 2, .int 0, .int 0, .int 0])), (m_x, .inr (11, [.int 0, .ref m_q1, .int 0, .int 0, .int 0, .int 0, .int 0, .int 0, .int 0, .int 0, .int 0, .int 0, .long 0, .int 0, .ref m_q3, .ref m_q5, .ref m_q7, .ref m_q9, .ref m_q11, .ref m_q13, .ref m_q15, .ref m_q17, .ref m_q19, .int 0, .int 0, .int 0, .int 0, .int (-1), .int (-1), .long 0, .long 0, .ref m_q21, .ref m_q23, .int 0, .int (-1), .int 0, .ref m_q25, .int 0, .ref m_q27, .ref m_q29, .int 0, .int 0, .ref m_q31, .int 0, .int 0, .int 0, .int 0])), (m_q3, .inl (m_y4, 373, .inl (upd (upd (fun _ => 0) 60 2) 62 2)))] H) (hD : va_D A [(x_x, .inr (10, [.ref x_q1, .ref x_q4, .ref x_q10, .ref x_q16, .ref x_q17, .ref x_q23, .ref x_q27, .ref x_q31, .ref x_q32, .ref x_q49, .ref x_q51, .ref x_q53, .ref x_q78, .ref x_q89, .ref x_q96, .int (-1), .int 0, .int (-1), .int (-1)])), (x_q4, .inr (5, [.ref x_q5, .ref x_q6, .ref x_q7, .ref x_q8, .ref x_q9, .int 0, .int 0, .int 0, .int 2, .int 0, .int 0, .int 0])), (m_x, .inr (11, [.int 0, .ref m_q1, .int 0, .int 0, .int 0, .int 0, .int 0, .int 0, .int 0, .int 0, .int 0, .int 0, .long 0, .int 0, .ref m_q3, .ref m_q5, .ref m_q7, .ref m_q9, .ref m_q11, .ref m_q13, .ref m_q15, .ref m_q17, .ref m_q19, .int 0, .int 0, .int 0, .int 0, .int (-1), .int (-1), .long 0, .long 0, .ref m_q21, .ref m_q23, .int 0, .int (-1), .int 0, .ref m_q25, .int 0, .ref m_q27, .ref m_q29, .int 0, .int 0, .ref m_q31, .int 0, .int 0, .int 0, .int 0])), (m_q3, .inl (m_y4, 373, .inl (upd (upd (fun _ => 0) 60 2) 62 2)))]) (hS : va_S A s.heap H locs) (hE : EV ad A s s.heap) (hl : lv_has ls 8 [(4, .int 0), (3, .ref o_q), (2, .ref m_x), (1, .ref x_x), (0, .ref b)]) : W p l e room_1 s m #[Value.ref b] below meth c H locs 314 7149 (lw_Z below #[Value.ref b] s) (F0 m 1139 ls []) := by
  obtain ⟨hx, hb, hr, hml, hown, hts0, hX, hbl, hlocks, hgv⟩ := id C0
  have hts : ∀ w ∈ lw_tbl, w.before #[Value.ref b] s = true := hts0
  obtain ⟨a1, x1⟩ : ∃ y : Int32, xs 1 = y := ⟨_, rfl⟩
  refine lv_aload_n hx hb dL_law_1139 rfl (lv_at hl 3 rfl) ?_
  refine lv_aload_n hx hb dL_law_1140 rfl (lv_at hl 4 rfl) ?_
  refine lv_iload hx hb dL_law_1141 (lv_at hl 0 rfl) ?_
  refine lv_iconst (v := 1) hx hb dL_law_1143 (by decide) ?_
  refine lv_iadd hx hb dL_law_1144 ?_
  refine zz_top (v := 1) (by decide) ?_
  refine va_sld hx hb hX hbl hbA hS (i := 1) (zz_in (by decide)) dL_law_1145 ?_
  refine zz_top (v := a1) (x1) ?_
  have hPc := hP.sub (ws' := [(x_x, .inr (10, [.ref x_q1, .ref x_q4, .ref x_q10, .ref x_q16, .ref x_q17, .ref x_q23, .ref x_q27, .ref x_q31, .ref x_q32, .ref x_q49, .ref x_q51, .ref x_q53, .ref x_q78, .ref x_q89, .ref x_q96, .int (-1), .int 0, .int (-1), .int (-1)])), (x_q4, .inr (5, [.ref x_q5, .ref x_q6, .ref x_q7, .ref x_q8, .ref x_q9, .int 0, .int 0, .int 0, .int 2, .int 0, .int 0, .int 0]))]) [0, 1] rfl
  have hDc := hD.sub (ws' := [(x_x, .inr (10, [.ref x_q1, .ref x_q4, .ref x_q10, .ref x_q16, .ref x_q17, .ref x_q23, .ref x_q27, .ref x_q31, .ref x_q32, .ref x_q49, .ref x_q51, .ref x_q53, .ref x_q78, .ref x_q89, .ref x_q96, .int (-1), .int 0, .int (-1), .int (-1)])), (x_q4, .inr (5, [.ref x_q5, .ref x_q6, .ref x_q7, .ref x_q8, .ref x_q9, .int 0, .int 0, .int 0, .int 2, .int 0, .int 0, .int 0]))]) [0, 1] (by decide) rfl
  have hKc := hK.sub (tys' := []) [] rfl
  have hFc := va_free (wc := [(x_x, .inr (10, [.ref x_q1, .ref x_q4, .ref x_q10, .ref x_q16, .ref x_q17, .ref x_q23, .ref x_q27, .ref x_q31, .ref x_q32, .ref x_q49, .ref x_q51, .ref x_q53, .ref x_q78, .ref x_q89, .ref x_q96, .int (-1), .int 0, .int (-1), .int (-1)])), (x_q4, .inr (5, [.ref x_q5, .ref x_q6, .ref x_q7, .ref x_q8, .ref x_q9, .int 0, .int 0, .int 0, .int 2, .int 0, .int 0, .int 0]))]) hD hS hA [0, 1] rfl
  refine va_calli (va_runV (As := [.int a1]) (rest := []) ⟨hx, hb, hml, hown, hts⟩ (k_X11_votes l dC dI ad x_x x_q1 x_q4 x_q10 x_q16 x_q17 x_q23 x_q27 x_q31 x_q32 x_q49 x_q51 x_q53 x_q78 x_q89 x_q96 x_q5 x_q6 x_q7 x_q8 x_q9 a1 H.size) (cwV 1 hts gT_X11_votes_143 rfl rfl rfl (by decide +kernel) ⟨Nat.le_of_ble_eq_true rfl, Nat.le_of_ble_eq_true rfl⟩) ⟨fun a U g mk q => ⟨q.1, CP.blind q.2⟩, va_recv hKc hPc (ci := 10) (q0 := 0) rfl rfl, fun U hU hW => ⟨rfl, CP.of hPc hKc hDc hE hS hFc hU hW⟩⟩ rfl rfl hl.1 rfl (lv_room (Nat.le_of_ble_eq_true rfl)) dL_law_1146 ⟨Nat.le_of_ble_eq_true rfl, Nat.le_of_ble_eq_true rfl⟩) hS (fun q _ h => hFc q h) hFc (fun r1 u t H1 locs ht hvm hw hB hz1 hk1 hS => ?_)
  obtain ⟨hP1, hK1, hD1⟩ := hB
  rw [ht] at hP1
  obtain ⟨hP, hD⟩ := va_join (wr := [(m_x, .inr (11, [.int 0, .ref m_q1, .int 0, .int 0, .int 0, .int 0, .int 0, .int 0, .int 0, .int 0, .int 0, .int 0, .long 0, .int 0, .ref m_q3, .ref m_q5, .ref m_q7, .ref m_q9, .ref m_q11, .ref m_q13, .ref m_q15, .ref m_q17, .ref m_q19, .int 0, .int 0, .int 0, .int 0, .int (-1), .int (-1), .long 0, .long 0, .ref m_q21, .ref m_q23, .int 0, .int (-1), .int 0, .ref m_q25, .int 0, .ref m_q27, .ref m_q29, .int 0, .int 0, .ref m_q31, .int 0, .int 0, .int 0, .int 0])), (m_q3, .inl (m_y4, 373, .inl (upd (upd (fun _ => 0) 60 2) 62 2)))]) (w1 := []) hP hD [0, 1] [2, 3] rfl rfl (by decide) (by decide) hk1 hFc hP1 hD1
  generalize H1 = H at hP hS ⊢
  clear hPc hDc hKc hFc hP1 hD1 hK1 hk1 hz1
  have hP : va_P (dC, dI) vwCl [(m_x, .inr (11, [.int 0, .ref m_q1, .int 0, .int 0, .int 0, .int 0, .int 0, .int 0, .int 0, .int 0, .int 0, .int 0, .long 0, .int 0, .ref m_q3, .ref m_q5, .ref m_q7, .ref m_q9, .ref m_q11, .ref m_q13, .ref m_q15, .ref m_q17, .ref m_q19, .int 0, .int 0, .int 0, .int 0, .int (-1), .int (-1), .long 0, .long 0, .ref m_q21, .ref m_q23, .int 0, .int (-1), .int 0, .ref m_q25, .int 0, .ref m_q27, .ref m_q29, .int 0, .int 0, .ref m_q31, .int 0, .int 0, .int 0, .int 0])), (m_q3, .inl (m_y4, 373, .inl (upd (upd (fun _ => 0) 60 2) 62 2)))] H := hP
  have hD : va_D A [(m_x, .inr (11, [.int 0, .ref m_q1, .int 0, .int 0, .int 0, .int 0, .int 0, .int 0, .int 0, .int 0, .int 0, .int 0, .long 0, .int 0, .ref m_q3, .ref m_q5, .ref m_q7, .ref m_q9, .ref m_q11, .ref m_q13, .ref m_q15, .ref m_q17, .ref m_q19, .int 0, .int 0, .int 0, .int 0, .int (-1), .int (-1), .long 0, .long 0, .ref m_q21, .ref m_q23, .int 0, .int (-1), .int 0, .ref m_q25, .int 0, .ref m_q27, .ref m_q29, .int 0, .int 0, .ref m_q31, .int 0, .int 0, .int 0, .int 0])), (m_q3, .inl (m_y4, 373, .inl (upd (upd (fun _ => 0) 60 2) 62 2)))] := hD
  refine zz_top (v := (-1)) hw ?_
  refine lv_aload_n hx hb dL_law_1149 rfl (lv_at hl 2 rfl) ?_
  refine lv_aload_n hx hb dL_law_1150 rfl (lv_at hl 4 rfl) ?_
  refine lv_iload hx hb dL_law_1151 (lv_at hl 0 rfl) ?_
  refine lv_iconst (v := 1) hx hb dL_law_1153 (by decide) ?_
  refine lv_iadd hx hb dL_law_1154 ?_
  refine zz_top (v := 1) (by decide) ?_
  refine va_sld hx hb hX hbl hbA hS (i := 1) (zz_in (by decide)) dL_law_1155 ?_
  refine zz_top (v := a1) (x1) ?_
  have hPc := hP.sub (ws' := [(m_x, .inr (11, [.int 0, .ref m_q1, .int 0, .int 0, .int 0, .int 0, .int 0, .int 0, .int 0, .int 0, .int 0, .int 0, .long 0, .int 0, .ref m_q3, .ref m_q5, .ref m_q7, .ref m_q9, .ref m_q11, .ref m_q13, .ref m_q15, .ref m_q17, .ref m_q19, .int 0, .int 0, .int 0, .int 0, .int (-1), .int (-1), .long 0, .long 0, .ref m_q21, .ref m_q23, .int 0, .int (-1), .int 0, .ref m_q25, .int 0, .ref m_q27, .ref m_q29, .int 0, .int 0, .ref m_q31, .int 0, .int 0, .int 0, .int 0])), (m_q3, .inl (m_y4, 373, .inl (upd (upd (fun _ => 0) 60 2) 62 2)))]) [0, 1] rfl
  have hDc := hD.sub (ws' := [(m_x, .inr (11, [.int 0, .ref m_q1, .int 0, .int 0, .int 0, .int 0, .int 0, .int 0, .int 0, .int 0, .int 0, .int 0, .long 0, .int 0, .ref m_q3, .ref m_q5, .ref m_q7, .ref m_q9, .ref m_q11, .ref m_q13, .ref m_q15, .ref m_q17, .ref m_q19, .int 0, .int 0, .int 0, .int 0, .int (-1), .int (-1), .long 0, .long 0, .ref m_q21, .ref m_q23, .int 0, .int (-1), .int 0, .ref m_q25, .int 0, .ref m_q27, .ref m_q29, .int 0, .int 0, .ref m_q31, .int 0, .int 0, .int 0, .int 0])), (m_q3, .inl (m_y4, 373, .inl (upd (upd (fun _ => 0) 60 2) 62 2)))]) [0, 1] (by decide) rfl
  have hKc := hK.sub (tys' := [(m_y4, .int)]) [0] rfl
  have hFc := va_free (wc := [(m_x, .inr (11, [.int 0, .ref m_q1, .int 0, .int 0, .int 0, .int 0, .int 0, .int 0, .int 0, .int 0, .int 0, .int 0, .long 0, .int 0, .ref m_q3, .ref m_q5, .ref m_q7, .ref m_q9, .ref m_q11, .ref m_q13, .ref m_q15, .ref m_q17, .ref m_q19, .int 0, .int 0, .int 0, .int 0, .int (-1), .int (-1), .long 0, .long 0, .ref m_q21, .ref m_q23, .int 0, .int (-1), .int 0, .ref m_q25, .int 0, .ref m_q27, .ref m_q29, .int 0, .int 0, .ref m_q31, .int 0, .int 0, .int 0, .int 0])), (m_q3, .inl (m_y4, 373, .inl (upd (upd (fun _ => 0) 60 2) 62 2)))]) hD hS hA [0, 1] rfl
  refine va_calli (va_runV (As := [.int a1]) (rest := [.int (-1)]) ⟨hx, hb, hml, hown, hts⟩ (k_X12_votes l dC dI ad m_x m_q1 m_q3 m_q5 m_q7 m_q9 m_q11 m_q13 m_q15 m_q17 m_q19 m_q21 m_q23 m_q25 m_q27 m_q29 m_q31 a1 m_y4 H.size) (cwV 1 hts gT_X12_votes_146 rfl rfl rfl (by decide +kernel) ⟨Nat.le_of_ble_eq_true rfl, Nat.le_of_ble_eq_true rfl⟩) ⟨fun a U g mk q => ⟨q.1, CP.blind q.2⟩, va_recv hKc hPc (ci := 11) (q0 := 0) rfl rfl, fun U hU hW => ⟨rfl, CP.of hPc hKc hDc hE hS hFc hU hW⟩⟩ rfl rfl hl.1 rfl (lv_room (Nat.le_of_ble_eq_true rfl)) dL_law_1156 ⟨Nat.le_of_ble_eq_true rfl, Nat.le_of_ble_eq_true rfl⟩) hS (fun q _ h => hFc q h) hFc (fun r2 u t H1 locs ht hvm hw hB hz1 hk1 hS => ?_)
  obtain ⟨hP1, hK1, hD1⟩ := hB
  rw [ht] at hP1
  obtain ⟨hP, hD⟩ := va_join (wr := []) (w1 := []) hP hD [0, 1] [] rfl rfl (by decide) (by decide) hk1 hFc hP1 hD1
  generalize H1 = H at hP hS ⊢
  clear hPc hDc hKc hFc hP1 hD1 hK1 hk1 hz1
  have hP : va_P (dC, dI) vwCl [] H := hP
  have hD : va_D A [] := hD
  refine zz_top (v := (-1)) hw ?_
  refine lv_icmp_eq (tgt := 1476) hx hb dL_law_1159 (by decide) (fun _ => ?_) (fun c3 => absurd (by decide) c3)
  exact law_end l C0 hA2 hbA hS hl (Nat.le_of_ble_eq_true rfl) (Nat.le_of_ble_eq_true rfl)
set_option maxHeartbeats 4000000 in
set_option maxRecDepth 100000 in
theorem lawc_against {p : Program} {e : Env} {s : State} {m : MethodId} {below : List Frame} {meth : Method} {c : Code} (l : Launch) {b : Nat} {xs : Nat → Int32} (C0 : lw_At p s m meth c b 6 xs) (dC : Nat → ClassId) (dI : Nat → Nat → Nat) (ad : Nat → Nat) (A : Nat → Prop) (hA : ∀ q : Nat, s.heap.size ≤ q → A q) (hA2 : ∀ q : Nat, A q → s.heap.size ≤ q) (hbA : ¬ A b) (x_x m_x o_q x_q1 x_q4 x_q10 x_q16 x_q17 x_q23 x_q27 x_q31 x_q32 x_q49 x_q51 x_q53 x_q78 x_q89 x_q96 x_q5 x_q6 x_q7 x_q8 x_q9 m_q1 m_q3 m_q5 m_q7 m_q9 m_q11 m_q13 m_q15 m_q17 m_q19 m_q21 m_q23 m_q25 m_q27 m_q29 m_q31 : Nat) (m_y4 : ClassId) (H : Heap) (locs : List Loc) (ls : Array Slot) (hK : va_K (dC, dI) vwCl [(m_y4, .int)] s) (hP : va_P (dC, dI) vwCl [(x_x, .inr (10, [.ref x_q1, .ref x_q4, .ref x_q10, .ref x_q16, .ref x_q17, .ref x_q23, .ref x_q27, .ref x_q31, .ref x_q32, .ref x_q49, .ref x_q51, .ref x_q53, .ref x_q78, .ref x_q89, .ref x_q96, .int (-1), .int 0, .int (-1), .int (-1)])), (x_q4, .inr (5, [.ref x_q5, .ref x_q6, .ref x_q7, .ref x_q8, .ref x_q9, .int 0, .int 0, .int 0, .int 2, .int 0, .int 0, .int 0])), (m_x, .inr (11, [.int 0, .ref m_q1, .int 0, .int 0, .int 0, .int 0, .int 0, .int 0, .int 0, .int 0, .int 0, .int 0, .long 0, .int 0, .ref m_q3, .ref m_q5, .ref m_q7, .ref m_q9, .ref m_q11, .ref m_q13, .ref m_q15, .ref m_q17, .ref m_q19, .int 0, .int 0, .int 0, .int 0, .int (-1), .int (-1), .long 0, .long 0, .ref m_q21, .ref m_q23, .int 0, .int (-1), .int 0, .ref m_q25, .int 0, .ref m_q27, .ref m_q29, .int 0, .int 0, .ref m_q31, .int 0, .int 0, .int 0, .int 0])), (m_q3, .inl (m_y4, 373, .inl (upd (upd (fun _ => 0) 60 2) 62 2)))] H) (hD : va_D A [(x_x, .inr (10, [.ref x_q1, .ref x_q4, .ref x_q10, .ref x_q16, .ref x_q17, .ref x_q23, .ref x_q27, .ref x_q31, .ref x_q32, .ref x_q49, .ref x_q51, .ref x_q53, .ref x_q78, .ref x_q89, .ref x_q96, .int (-1), .int 0, .int (-1), .int (-1)])), (x_q4, .inr (5, [.ref x_q5, .ref x_q6, .ref x_q7, .ref x_q8, .ref x_q9, .int 0, .int 0, .int 0, .int 2, .int 0, .int 0, .int 0])), (m_x, .inr (11, [.int 0, .ref m_q1, .int 0, .int 0, .int 0, .int 0, .int 0, .int 0, .int 0, .int 0, .int 0, .int 0, .long 0, .int 0, .ref m_q3, .ref m_q5, .ref m_q7, .ref m_q9, .ref m_q11, .ref m_q13, .ref m_q15, .ref m_q17, .ref m_q19, .int 0, .int 0, .int 0, .int 0, .int (-1), .int (-1), .long 0, .long 0, .ref m_q21, .ref m_q23, .int 0, .int (-1), .int 0, .ref m_q25, .int 0, .ref m_q27, .ref m_q29, .int 0, .int 0, .ref m_q31, .int 0, .int 0, .int 0, .int 0])), (m_q3, .inl (m_y4, 373, .inl (upd (upd (fun _ => 0) 60 2) 62 2)))]) (hS : va_S A s.heap H locs) (hE : EV ad A s s.heap) (hl : lv_has ls 8 [(4, .int 0), (3, .ref o_q), (2, .ref m_x), (1, .ref x_x), (0, .ref b)]) : W p l e room_1 s m #[Value.ref b] below meth c H locs 314 7149 (lw_Z below #[Value.ref b] s) (F0 m 1164 ls []) := by
  obtain ⟨hx, hb, hr, hml, hown, hts0, hX, hbl, hlocks, hgv⟩ := id C0
  have hts : ∀ w ∈ lw_tbl, w.before #[Value.ref b] s = true := hts0
  obtain ⟨a1, x1⟩ : ∃ y : Int32, xs 1 = y := ⟨_, rfl⟩
  refine lv_aload_n hx hb dL_law_1164 rfl (lv_at hl 3 rfl) ?_
  refine lv_aload_n hx hb dL_law_1165 rfl (lv_at hl 4 rfl) ?_
  refine lv_iload hx hb dL_law_1166 (lv_at hl 0 rfl) ?_
  refine lv_iconst (v := 1) hx hb dL_law_1168 (by decide) ?_
  refine lv_iadd hx hb dL_law_1169 ?_
  refine zz_top (v := 1) (by decide) ?_
  refine va_sld hx hb hX hbl hbA hS (i := 1) (zz_in (by decide)) dL_law_1170 ?_
  refine zz_top (v := a1) (x1) ?_
  have hPc := hP.sub (ws' := [(x_x, .inr (10, [.ref x_q1, .ref x_q4, .ref x_q10, .ref x_q16, .ref x_q17, .ref x_q23, .ref x_q27, .ref x_q31, .ref x_q32, .ref x_q49, .ref x_q51, .ref x_q53, .ref x_q78, .ref x_q89, .ref x_q96, .int (-1), .int 0, .int (-1), .int (-1)])), (x_q4, .inr (5, [.ref x_q5, .ref x_q6, .ref x_q7, .ref x_q8, .ref x_q9, .int 0, .int 0, .int 0, .int 2, .int 0, .int 0, .int 0]))]) [0, 1] rfl
  have hDc := hD.sub (ws' := [(x_x, .inr (10, [.ref x_q1, .ref x_q4, .ref x_q10, .ref x_q16, .ref x_q17, .ref x_q23, .ref x_q27, .ref x_q31, .ref x_q32, .ref x_q49, .ref x_q51, .ref x_q53, .ref x_q78, .ref x_q89, .ref x_q96, .int (-1), .int 0, .int (-1), .int (-1)])), (x_q4, .inr (5, [.ref x_q5, .ref x_q6, .ref x_q7, .ref x_q8, .ref x_q9, .int 0, .int 0, .int 0, .int 2, .int 0, .int 0, .int 0]))]) [0, 1] (by decide) rfl
  have hKc := hK.sub (tys' := []) [] rfl
  have hFc := va_free (wc := [(x_x, .inr (10, [.ref x_q1, .ref x_q4, .ref x_q10, .ref x_q16, .ref x_q17, .ref x_q23, .ref x_q27, .ref x_q31, .ref x_q32, .ref x_q49, .ref x_q51, .ref x_q53, .ref x_q78, .ref x_q89, .ref x_q96, .int (-1), .int 0, .int (-1), .int (-1)])), (x_q4, .inr (5, [.ref x_q5, .ref x_q6, .ref x_q7, .ref x_q8, .ref x_q9, .int 0, .int 0, .int 0, .int 2, .int 0, .int 0, .int 0]))]) hD hS hA [0, 1] rfl
  refine va_calli (va_runV (As := [.int a1]) (rest := []) ⟨hx, hb, hml, hown, hts⟩ (k_X11_against l dC dI ad x_x x_q1 x_q4 x_q10 x_q16 x_q17 x_q23 x_q27 x_q31 x_q32 x_q49 x_q51 x_q53 x_q78 x_q89 x_q96 x_q5 x_q6 x_q7 x_q8 x_q9 a1 H.size) (cwV 1 hts gT_X11_against_147 rfl rfl rfl (by decide +kernel) ⟨Nat.le_of_ble_eq_true rfl, Nat.le_of_ble_eq_true rfl⟩) ⟨fun a U g mk q => ⟨q.1, CP.blind q.2⟩, va_recv hKc hPc (ci := 10) (q0 := 0) rfl rfl, fun U hU hW => ⟨rfl, CP.of hPc hKc hDc hE hS hFc hU hW⟩⟩ rfl rfl hl.1 rfl (lv_room (Nat.le_of_ble_eq_true rfl)) dL_law_1171 ⟨Nat.le_of_ble_eq_true rfl, Nat.le_of_ble_eq_true rfl⟩) hS (fun q _ h => hFc q h) hFc (fun r1 u t H1 locs ht hvm hw hB hz1 hk1 hS => ?_)
  obtain ⟨hP1, hK1, hD1⟩ := hB
  rw [ht] at hP1
  obtain ⟨hP, hD⟩ := va_join (wr := [(m_x, .inr (11, [.int 0, .ref m_q1, .int 0, .int 0, .int 0, .int 0, .int 0, .int 0, .int 0, .int 0, .int 0, .int 0, .long 0, .int 0, .ref m_q3, .ref m_q5, .ref m_q7, .ref m_q9, .ref m_q11, .ref m_q13, .ref m_q15, .ref m_q17, .ref m_q19, .int 0, .int 0, .int 0, .int 0, .int (-1), .int (-1), .long 0, .long 0, .ref m_q21, .ref m_q23, .int 0, .int (-1), .int 0, .ref m_q25, .int 0, .ref m_q27, .ref m_q29, .int 0, .int 0, .ref m_q31, .int 0, .int 0, .int 0, .int 0])), (m_q3, .inl (m_y4, 373, .inl (upd (upd (fun _ => 0) 60 2) 62 2)))]) (w1 := []) hP hD [0, 1] [2, 3] rfl rfl (by decide) (by decide) hk1 hFc hP1 hD1
  generalize H1 = H at hP hS ⊢
  clear hPc hDc hKc hFc hP1 hD1 hK1 hk1 hz1
  have hP : va_P (dC, dI) vwCl [(m_x, .inr (11, [.int 0, .ref m_q1, .int 0, .int 0, .int 0, .int 0, .int 0, .int 0, .int 0, .int 0, .int 0, .int 0, .long 0, .int 0, .ref m_q3, .ref m_q5, .ref m_q7, .ref m_q9, .ref m_q11, .ref m_q13, .ref m_q15, .ref m_q17, .ref m_q19, .int 0, .int 0, .int 0, .int 0, .int (-1), .int (-1), .long 0, .long 0, .ref m_q21, .ref m_q23, .int 0, .int (-1), .int 0, .ref m_q25, .int 0, .ref m_q27, .ref m_q29, .int 0, .int 0, .ref m_q31, .int 0, .int 0, .int 0, .int 0])), (m_q3, .inl (m_y4, 373, .inl (upd (upd (fun _ => 0) 60 2) 62 2)))] H := hP
  have hD : va_D A [(m_x, .inr (11, [.int 0, .ref m_q1, .int 0, .int 0, .int 0, .int 0, .int 0, .int 0, .int 0, .int 0, .int 0, .int 0, .long 0, .int 0, .ref m_q3, .ref m_q5, .ref m_q7, .ref m_q9, .ref m_q11, .ref m_q13, .ref m_q15, .ref m_q17, .ref m_q19, .int 0, .int 0, .int 0, .int 0, .int (-1), .int (-1), .long 0, .long 0, .ref m_q21, .ref m_q23, .int 0, .int (-1), .int 0, .ref m_q25, .int 0, .ref m_q27, .ref m_q29, .int 0, .int 0, .ref m_q31, .int 0, .int 0, .int 0, .int 0])), (m_q3, .inl (m_y4, 373, .inl (upd (upd (fun _ => 0) 60 2) 62 2)))] := hD
  refine zz_top (v := (-1)) hw ?_
  refine lv_aload_n hx hb dL_law_1174 rfl (lv_at hl 2 rfl) ?_
  refine lv_aload_n hx hb dL_law_1175 rfl (lv_at hl 4 rfl) ?_
  refine lv_iload hx hb dL_law_1176 (lv_at hl 0 rfl) ?_
  refine lv_iconst (v := 1) hx hb dL_law_1178 (by decide) ?_
  refine lv_iadd hx hb dL_law_1179 ?_
  refine zz_top (v := 1) (by decide) ?_
  refine va_sld hx hb hX hbl hbA hS (i := 1) (zz_in (by decide)) dL_law_1180 ?_
  refine zz_top (v := a1) (x1) ?_
  have hPc := hP.sub (ws' := [(m_x, .inr (11, [.int 0, .ref m_q1, .int 0, .int 0, .int 0, .int 0, .int 0, .int 0, .int 0, .int 0, .int 0, .int 0, .long 0, .int 0, .ref m_q3, .ref m_q5, .ref m_q7, .ref m_q9, .ref m_q11, .ref m_q13, .ref m_q15, .ref m_q17, .ref m_q19, .int 0, .int 0, .int 0, .int 0, .int (-1), .int (-1), .long 0, .long 0, .ref m_q21, .ref m_q23, .int 0, .int (-1), .int 0, .ref m_q25, .int 0, .ref m_q27, .ref m_q29, .int 0, .int 0, .ref m_q31, .int 0, .int 0, .int 0, .int 0])), (m_q3, .inl (m_y4, 373, .inl (upd (upd (fun _ => 0) 60 2) 62 2)))]) [0, 1] rfl
  have hDc := hD.sub (ws' := [(m_x, .inr (11, [.int 0, .ref m_q1, .int 0, .int 0, .int 0, .int 0, .int 0, .int 0, .int 0, .int 0, .int 0, .int 0, .long 0, .int 0, .ref m_q3, .ref m_q5, .ref m_q7, .ref m_q9, .ref m_q11, .ref m_q13, .ref m_q15, .ref m_q17, .ref m_q19, .int 0, .int 0, .int 0, .int 0, .int (-1), .int (-1), .long 0, .long 0, .ref m_q21, .ref m_q23, .int 0, .int (-1), .int 0, .ref m_q25, .int 0, .ref m_q27, .ref m_q29, .int 0, .int 0, .ref m_q31, .int 0, .int 0, .int 0, .int 0])), (m_q3, .inl (m_y4, 373, .inl (upd (upd (fun _ => 0) 60 2) 62 2)))]) [0, 1] (by decide) rfl
  have hKc := hK.sub (tys' := [(m_y4, .int)]) [0] rfl
  have hFc := va_free (wc := [(m_x, .inr (11, [.int 0, .ref m_q1, .int 0, .int 0, .int 0, .int 0, .int 0, .int 0, .int 0, .int 0, .int 0, .int 0, .long 0, .int 0, .ref m_q3, .ref m_q5, .ref m_q7, .ref m_q9, .ref m_q11, .ref m_q13, .ref m_q15, .ref m_q17, .ref m_q19, .int 0, .int 0, .int 0, .int 0, .int (-1), .int (-1), .long 0, .long 0, .ref m_q21, .ref m_q23, .int 0, .int (-1), .int 0, .ref m_q25, .int 0, .ref m_q27, .ref m_q29, .int 0, .int 0, .ref m_q31, .int 0, .int 0, .int 0, .int 0])), (m_q3, .inl (m_y4, 373, .inl (upd (upd (fun _ => 0) 60 2) 62 2)))]) hD hS hA [0, 1] rfl
  refine va_calli (va_runV (As := [.int a1]) (rest := [.int (-1)]) ⟨hx, hb, hml, hown, hts⟩ (k_X12_against l dC dI ad m_x m_q1 m_q3 m_q5 m_q7 m_q9 m_q11 m_q13 m_q15 m_q17 m_q19 m_q21 m_q23 m_q25 m_q27 m_q29 m_q31 a1 m_y4 H.size) (cwV 1 hts gT_X12_against_150 rfl rfl rfl (by decide +kernel) ⟨Nat.le_of_ble_eq_true rfl, Nat.le_of_ble_eq_true rfl⟩) ⟨fun a U g mk q => ⟨q.1, CP.blind q.2⟩, va_recv hKc hPc (ci := 11) (q0 := 0) rfl rfl, fun U hU hW => ⟨rfl, CP.of hPc hKc hDc hE hS hFc hU hW⟩⟩ rfl rfl hl.1 rfl (lv_room (Nat.le_of_ble_eq_true rfl)) dL_law_1181 ⟨Nat.le_of_ble_eq_true rfl, Nat.le_of_ble_eq_true rfl⟩) hS (fun q _ h => hFc q h) hFc (fun r2 u t H1 locs ht hvm hw hB hz1 hk1 hS => ?_)
  obtain ⟨hP1, hK1, hD1⟩ := hB
  rw [ht] at hP1
  obtain ⟨hP, hD⟩ := va_join (wr := []) (w1 := []) hP hD [0, 1] [] rfl rfl (by decide) (by decide) hk1 hFc hP1 hD1
  generalize H1 = H at hP hS ⊢
  clear hPc hDc hKc hFc hP1 hD1 hK1 hk1 hz1
  have hP : va_P (dC, dI) vwCl [] H := hP
  have hD : va_D A [] := hD
  refine zz_top (v := (-1)) hw ?_
  refine lv_icmp_eq (tgt := 1476) hx hb dL_law_1184 (by decide) (fun _ => ?_) (fun c3 => absurd (by decide) c3)
  exact law_end l C0 hA2 hbA hS hl (Nat.le_of_ble_eq_true rfl) (Nat.le_of_ble_eq_true rfl)
