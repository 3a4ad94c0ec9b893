set_option maxHeartbeats 8000000 in
set_option maxRecDepth 100000 in
theorem whole_start {p : Program} {e : Env} {s : State} {m : MethodId} {below : List Frame} {meth : Method} {c : Code} (l : Launch) (hflags : l.flags = flags0) {b L : Nat} {xs : Nat → Int32} (hL : L ≤ 3072) (C0 : lw_At p s m meth c b L xs) : W p l e room_1 s m #[Value.ref b] below meth c s.heap [] 0 0 (lw_Z below #[Value.ref b] s) (entryFrame m ([Value.ref b] : List Value).toArray 8) := by
  obtain ⟨hx, hb, hr, hml, hown, hts0, hX, hbl, hlocks, hgv⟩ := id C0
  have hst : l.stackTraces = false := by rw [Launch.stackTraces, hflags]; decide
  obtain ⟨dC, dI, hKc⟩ := w_env C0
  have hts : ∀ w ∈ lw_tbl, w.before #[Value.ref b] s = true := hts0
  obtain ⟨A, hAe⟩ : ∃ A : Nat → Prop, A = LF s := ⟨_, rfl⟩
  have hA : ∀ q : Nat, s.heap.size ≤ q → A q := fun q h => by rw [hAe]; exact h
  have hA3 : ∀ a : Nat, a < s.heap.size → ¬ A a := fun a h z => by rw [hAe] at z; exact absurd h (Nat.not_lt.mpr z)
  obtain ⟨ad, hE⟩ := EV.start (A := A) hts0 hgv hA3
  have hEX : EX A s s.heap := EX.start hts0 hgv hA3
  have hS : va_S A s.heap s.heap [] := va_S.rf
  have hK : va_K (dC, dI) vwCl [] s := ⟨hKc, fun k q h => by simp at h⟩
  have hP : va_P (dC, dI) vwCl [] s.heap := fun k q h => by simp at h
  have hD : va_D A [] := ⟨fun i j p q h => by simp at h, fun k q h => by simp at h⟩
  have hl := lv_entry ([.ref b]) (n := 8) (Nat.le_of_ble_eq_true rfl)
  rw [lg_entry_eq]
  generalize (lg_sl ([.ref b]) ++ List.replicate (8 - (lg_sl ([.ref b])).length) Slot.unset).toArray = ls at hl ⊢
  have hl : lv_has ls 8 [(0, .ref b)] := hl
  refine va_new (ci := 10) (fs := [.null, .null, .null, .null, .null, .null, .null, .null, .null, .null, .null, .null, .null, .null, .null, .int 0, .int 0, .int 0, .int 0]) (C := RX11) (T := TX11) (N := 19) hx hb hts iT_X11 tyX11 tyX11_ok hown (hts _ tw_31) (hts _ tw_32) (hts _ tw_1) hK hP hD hS hA rfl (zz_fs (by decide)) (Nat.le_of_ble_eq_true rfl) (Nat.le_of_ble_eq_true rfl) dL_law_0 (fun q1 H hP hD hS => ?_)
  refine W.widen (k := 1) (n := 19) (Nat.le_of_ble_eq_true rfl) (Nat.le_of_ble_eq_true rfl) ?_
  have hP := zj_rP hP
  have hD := zj_rD hD
  have hP : va_P (dC, dI) vwCl ((q1, .inr (10, [.null, .null, .null, .null, .null, .null, .null, .null, .null, .null, .null, .null, .null, .null, .null, .int 0, .int 0, .int 0, .int 0])) :: []) H := hP
  have hD : va_D A ((q1, .inr (10, [.null, .null, .null, .null, .null, .null, .null, .null, .null, .null, .null, .null, .null, .null, .null, .int 0, .int 0, .int 0, .int 0])) :: []) := hD
  refine lv_dup hx hb dL_law_3 rfl ?_
  have hPc := hP.sub (ws' := [(q1, .inr (10, [.null, .null, .null, .null, .null, .null, .null, .null, .null, .null, .null, .null, .null, .null, .null, .int 0, .int 0, .int 0, .int 0]))]) [0] rfl
  have hDc := hD.sub (ws' := [(q1, .inr (10, [.null, .null, .null, .null, .null, .null, .null, .null, .null, .null, .null, .null, .null, .null, .null, .int 0, .int 0, .int 0, .int 0]))]) [0] (by decide) rfl
  have hKc := hK.sub (tys' := []) [] rfl
  have hFc := va_free (wc := [(q1, .inr (10, [.null, .null, .null, .null, .null, .null, .null, .null, .null, .null, .null, .null, .null, .null, .null, .int 0, .int 0, .int 0, .int 0]))]) hD hS hA [0] rfl
  refine va_callv (va_runI (As := []) (rest := [.ref q1]) ⟨hx, hb, hml, hown, hts⟩ (k_X11_init l dC dI ad q1 H.size) (cwI 0 hts gT_X11_init_22 rfl rfl rfl (hts _ tw_1) (hts _ tw_33) (hts _ tw_34) rfl (by decide +kernel) ⟨Nat.le_of_ble_eq_true rfl, Nat.le_of_ble_eq_true rfl⟩) ⟨fun a U g mk q => ⟨q.1, CP.blind q.2⟩, fun U hU hW => ⟨rfl, CP.of hPc hKc hDc hE hS hFc hU hW⟩⟩ rfl rfl hl.1 rfl (lv_room (Nat.le_of_ble_eq_true rfl)) dL_law_4 ⟨Nat.le_of_ble_eq_true rfl, Nat.le_of_ble_eq_true rfl⟩) hS (fun q _ h => hFc q h) hFc (fun u t H1 locs ht hvm hw hB hz1 hk1 hS => ?_)
  obtain ⟨Ar, Cr, kA0, kN, kF, hP1, hK1⟩ := hB
  rw [ht] at hP1
  have hD1 := xDg kN kF Cr 16 cst csl (cso ad)
  obtain ⟨X, hXe⟩ : ∃ X, X = xw Ar Cr 16 cst csl (cso ad) := ⟨_, rfl⟩
  obtain ⟨Y, hYe⟩ : ∃ Y, Y = xt Cr := ⟨_, rfl⟩
  rw [← hXe] at hP1 hD1
  rw [← hYe] at hK1
  obtain ⟨hP, hD⟩ := zj_call [] [] [] X hP hD hk1 hFc hP1 hD1
  have hK := zj_K hvm [] [] [] Y hK hK1
  generalize H1 = H at hP hS ⊢
  clear hPc hDc hKc hFc hP1 hD1 hK1 hk1 hz1 kF
  have hK : va_K (dC, dI) vwCl ((Y ++ [])) s := hK
  have hP : va_P (dC, dI) vwCl ((X ++ [])) H := hP
  have hD : va_D A ((X ++ [])) := hD
  refine W.widen (k := 296) (n := 3749) (Nat.le_of_ble_eq_true rfl) (Nat.le_of_ble_eq_true rfl) ?_
  refine lv_astore_n (lv' := [(1, .ref q1), (0, .ref b)]) hx hb dL_law_7 rfl hl (by decide) rfl (fun ls hl => ?_)
  refine va_new (ci := 11) (fs := [.int 0, .null, .int 0, .int 0, .int 0, .int 0, .int 0, .int 0, .int 0, .int 0, .int 0, .int 0, .long 0, .int 0, .null, .null, .null, .null, .null, .null, .null, .null, .null, .int 0, .int 0, .int 0, .int 0, .int 0, .int 0, .long 0, .long 0, .null, .null, .int 0, .int 0, .int 0, .null, .int 0, .null, .null, .int 0, .int 0, .null, .int 0, .int 0, .int 0, .int 0]) (C := RX12) (T := TX12) (N := 47) hx hb hts iT_X12 tyX12 tyX12_ok hown (hts _ tw_1439) (hts _ tw_1433) (hts _ tw_17) hK hP hD hS hA rfl (zz_fs (by decide)) (Nat.le_of_ble_eq_true rfl) (Nat.le_of_ble_eq_true rfl) dL_law_8 (fun q2 H hP hD hS => ?_)
  refine W.widen (k := 297) (n := 3796) (Nat.le_of_ble_eq_true rfl) (Nat.le_of_ble_eq_true rfl) ?_
  have hP := zj_rP hP
  have hD := zj_rD hD
  have hP : va_P (dC, dI) vwCl ((q2, .inr (11, [.int 0, .null, .int 0, .int 0, .int 0, .int 0, .int 0, .int 0, .int 0, .int 0, .int 0, .int 0, .long 0, .int 0, .null, .null, .null, .null, .null, .null, .null, .null, .null, .int 0, .int 0, .int 0, .int 0, .int 0, .int 0, .long 0, .long 0, .null, .null, .int 0, .int 0, .int 0, .null, .int 0, .null, .null, .int 0, .int 0, .null, .int 0, .int 0, .int 0, .int 0])) :: (X ++ [])) H := hP
  have hD : va_D A ((q2, .inr (11, [.int 0, .null, .int 0, .int 0, .int 0, .int 0, .int 0, .int 0, .int 0, .int 0, .int 0, .int 0, .long 0, .int 0, .null, .null, .null, .null, .null, .null, .null, .null, .null, .int 0, .int 0, .int 0, .int 0, .int 0, .int 0, .long 0, .long 0, .null, .null, .int 0, .int 0, .int 0, .null, .int 0, .null, .null, .int 0, .int 0, .null, .int 0, .int 0, .int 0, .int 0])) :: (X ++ [])) := hD
  refine lv_dup hx hb dL_law_11 rfl ?_
  have hPc := hP.sub (ws' := [(q2, .inr (11, [.int 0, .null, .int 0, .int 0, .int 0, .int 0, .int 0, .int 0, .int 0, .int 0, .int 0, .int 0, .long 0, .int 0, .null, .null, .null, .null, .null, .null, .null, .null, .null, .int 0, .int 0, .int 0, .int 0, .int 0, .int 0, .long 0, .long 0, .null, .null, .int 0, .int 0, .int 0, .null, .int 0, .null, .null, .int 0, .int 0, .null, .int 0, .int 0, .int 0, .int 0]))]) [0] rfl
  have hDc := hD.sub (ws' := [(q2, .inr (11, [.int 0, .null, .int 0, .int 0, .int 0, .int 0, .int 0, .int 0, .int 0, .int 0, .int 0, .int 0, .long 0, .int 0, .null, .null, .null, .null, .null, .null, .null, .null, .null, .int 0, .int 0, .int 0, .int 0, .int 0, .int 0, .long 0, .long 0, .null, .null, .int 0, .int 0, .int 0, .null, .int 0, .null, .null, .int 0, .int 0, .null, .int 0, .int 0, .int 0, .int 0]))]) [0] (by decide) rfl
  have hKc := hK.sub (tys' := []) [] rfl
  have hFc := va_free (wc := [(q2, .inr (11, [.int 0, .null, .int 0, .int 0, .int 0, .int 0, .int 0, .int 0, .int 0, .int 0, .int 0, .int 0, .long 0, .int 0, .null, .null, .null, .null, .null, .null, .null, .null, .null, .int 0, .int 0, .int 0, .int 0, .int 0, .int 0, .long 0, .long 0, .null, .null, .int 0, .int 0, .int 0, .null, .int 0, .null, .null, .int 0, .int 0, .null, .int 0, .int 0, .int 0, .int 0]))]) hD hS hA [0] rfl
  refine va_callv (va_runI (As := []) (rest := [.ref q2]) ⟨hx, hb, hml, hown, hts⟩ (k_X12_init l dC dI ad q2 H.size) (cwI 0 hts gT_X12_init_25 rfl rfl rfl (hts _ tw_17) (hts _ tw_1440) (hts _ tw_1441) rfl (by decide +kernel) ⟨Nat.le_of_ble_eq_true rfl, Nat.le_of_ble_eq_true rfl⟩) ⟨fun a U g mk q => ⟨q.1, CP.blind q.2⟩, fun U hU hW => ⟨rfl, CP.of hPc hKc hDc hE hS hFc hU hW⟩⟩ rfl rfl hl.1 rfl (lv_room (Nat.le_of_ble_eq_true rfl)) dL_law_12 ⟨Nat.le_of_ble_eq_true rfl, Nat.le_of_ble_eq_true rfl⟩) hS (fun q _ h => hFc q h) hFc (fun u t H1 locs ht hvm hw hB hz1 hk1 hS => ?_)
  obtain ⟨q3, q4, q5, q6, q7, q8, q9, q10, q11, q12, q13, q14, q15, q16, q17, q18, y19, y20, y21, y22, y23, y24, y25, y26, y27, y28, y29, y30, y31, y32, y33, y34, hP1, hK1, hD1⟩ := hB
  rw [ht] at hP1
  have hP1 : va_P (dC, dI) vwCl ([(q3, .inl (y19, 940, .inl (fun _ => 0))), (q4, .inl (y20, 61, .inl (fun _ => 0))), (q5, .inl (y21, 746, .inl (fun _ => 0))), (q6, .inl (y22, 560, .inl (fun _ => 0))), (q7, .inl (y23, 70, .inl (fun _ => 0))), (q8, .inl (y24, 19, .inr (.inl (fun _ => 0)))), (q9, .inl (y25, 19, .inr (.inl (fun _ => 0)))), (q10, .inl (y26, 38, .inr (.inl (fun _ => 0)))), (q11, .inl (y27, 2, .inl (fun _ => 0))), (q12, .inl (y28, 8, .inl (fun _ => 0))), (q13, .inl (y29, 8, .inl (fun _ => 0))), (q14, .inl (y30, 64, .inl (fun _ => 0))), (q15, .inl (y31, 200, .inl (fun _ => 0))), (q16, .inl (y32, 4, .inl (fun _ => 0))), (q17, .inl (y33, 240, .inl (fun _ => 0))), (q2, .inr (11, [.int 0, .ref q3, .int 0, .int 0, .int 0, .int 0, .int 0, .int 0, .int 0, .int 0, .int 0, .int 0, .long 0, .int 0, .ref q18, .ref q4, .ref q5, .ref q6, .ref q7, .ref q8, .ref q9, .ref q10, .ref q11, .int 0, .int 0, .int 0, .int 0, .int (-1), .int (-1), .long 0, .long 0, .ref q12, .ref q13, .int 0, .int (-1), .int 0, .ref q14, .int 0, .ref q15, .ref q16, .int 0, .int 0, .ref q17, .int 0, .int 0, .int 0, .int 0])), (q18, .inl (y34, 373, .inl (upd (upd (fun _ => 0) 60 2) 62 2)))] ++ []) H1 := by rw [List.append_nil]; exact hP1
  have hD1 : va_D (va_A [(q2, .inr (11, [.int 0, .null, .int 0, .int 0, .int 0, .int 0, .int 0, .int 0, .int 0, .int 0, .int 0, .int 0, .long 0, .int 0, .null, .null, .null, .null, .null, .null, .null, .null, .null, .int 0, .int 0, .int 0, .int 0, .int 0, .int 0, .long 0, .long 0, .null, .null, .int 0, .int 0, .int 0, .null, .int 0, .null, .null, .int 0, .int 0, .null, .int 0, .int 0, .int 0, .int 0]))] H.size) ([(q3, .inl (y19, 940, .inl (fun _ => 0))), (q4, .inl (y20, 61, .inl (fun _ => 0))), (q5, .inl (y21, 746, .inl (fun _ => 0))), (q6, .inl (y22, 560, .inl (fun _ => 0))), (q7, .inl (y23, 70, .inl (fun _ => 0))), (q8, .inl (y24, 19, .inr (.inl (fun _ => 0)))), (q9, .inl (y25, 19, .inr (.inl (fun _ => 0)))), (q10, .inl (y26, 38, .inr (.inl (fun _ => 0)))), (q11, .inl (y27, 2, .inl (fun _ => 0))), (q12, .inl (y28, 8, .inl (fun _ => 0))), (q13, .inl (y29, 8, .inl (fun _ => 0))), (q14, .inl (y30, 64, .inl (fun _ => 0))), (q15, .inl (y31, 200, .inl (fun _ => 0))), (q16, .inl (y32, 4, .inl (fun _ => 0))), (q17, .inl (y33, 240, .inl (fun _ => 0))), (q2, .inr (11, [.int 0, .ref q3, .int 0, .int 0, .int 0, .int 0, .int 0, .int 0, .int 0, .int 0, .int 0, .int 0, .long 0, .int 0, .ref q18, .ref q4, .ref q5, .ref q6, .ref q7, .ref q8, .ref q9, .ref q10, .ref q11, .int 0, .int 0, .int 0, .int 0, .int (-1), .int (-1), .long 0, .long 0, .ref q12, .ref q13, .int 0, .int (-1), .int 0, .ref q14, .int 0, .ref q15, .ref q16, .int 0, .int 0, .ref q17, .int 0, .int 0, .int 0, .int 0])), (q18, .inl (y34, 373, .inl (upd (upd (fun _ => 0) 60 2) 62 2)))] ++ []) := by rw [List.append_nil]; exact hD1
  have hK1 : va_K (dC, dI) vwCl ([(y19, .int), (y34, .int), (y20, .int), (y21, .int), (y22, .int), (y23, .int), (y24, .long), (y25, .long), (y26, .long), (y27, .boolean), (y28, .int), (y29, .int), (y30, .int), (y31, .int), (y32, .int), (y33, .int)] ++ []) t := by rw [List.append_nil]; exact hK1
  obtain ⟨hP, hD⟩ := zj_call [] (X ++ []) _ [] hP hD hk1 hFc hP1 hD1
  have hK := zj_K hvm [] (Y ++ []) _ [] hK hK1
  generalize H1 = H at hP hS ⊢
  clear hPc hDc hKc hFc hP1 hD1 hK1 hk1 hz1
  simp only [List.nil_append, List.cons_append] at hP hD hK
  refine W.widen (k := 313) (n := 7148) (Nat.le_of_ble_eq_true rfl) (Nat.le_of_ble_eq_true rfl) ?_
  refine lv_astore_n (lv' := [(2, .ref q2), (1, .ref q1), (0, .ref b)]) hx hb dL_law_15 rfl hl (by decide) rfl (fun ls hl => ?_)
  refine lv_iconst (v := 1) hx hb dL_law_16 (by decide) ?_
  refine va_newa (atype := .long) (ty := .long) (n := 1) (N' := 1) (a0 := (1, .inr (.inl (fun _ => 0)))) hx hb (hts _ tw_190) rfl hK hP hD hS hA (fun _ => rfl) (by decide) (by decide) (Nat.le_of_ble_eq_true rfl) (Nat.le_of_ble_eq_true rfl) (Nat.le_of_ble_eq_true rfl) dL_law_17 (fun q35 y36 H hK hP hD hS => ?_)
  refine W.widen (k := 314) (n := 7149) (Nat.le_of_ble_eq_true rfl) (Nat.le_of_ble_eq_true rfl) ?_
  have hP := zj_rP hP
  have hD := zj_rD hD
  have hK := zj_rK hK
  refine lv_astore_n (lv' := [(3, .ref q35), (2, .ref q2), (1, .ref q1), (0, .ref b)]) hx hb dL_law_19 rfl hl (by decide) rfl (fun ls hl => ?_)
  refine lv_iconst (v := 0) hx hb dL_law_20 (by decide) ?_
  refine lv_istore (lv' := [(4, .int 0), (3, .ref q35), (2, .ref q2), (1, .ref q1), (0, .ref b)]) hx hb dL_law_21 hl (by decide) rfl (fun ls hl => ?_)
  exact w_fin (A := A) (X := X) (Y := Y) (Ar := Ar) (Cr := Cr) (q35 := q35) (q3 := q3) (q4 := q4) (q5 := q5) (q6 := q6) (q7 := q7) (q8 := q8) (q9 := q9) (q10 := q10) (q11 := q11) (q12 := q12) (q13 := q13) (q14 := q14) (q15 := q15) (q16 := q16) (q17 := q17) (q2 := q2) (q18 := q18) (q1 := q1) (y36 := y36) (y19 := y19) (y20 := y20) (y21 := y21) (y22 := y22) (y23 := y23) (y24 := y24) (y25 := y25) (y26 := y26) (y27 := y27) (y28 := y28) (y29 := y29) (y30 := y30) (y31 := y31) (y32 := y32) (y33 := y33) (y34 := y34) l hst hL C0 dC dI ad hAe hXe hYe hE hEX kA0 kN hP hD hK hS hl
