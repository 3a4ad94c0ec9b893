set_option maxHeartbeats 4000000 in
set_option maxRecDepth 100000 in
theorem lawc_feed {p : Program} {e : Env} {s : State} {m : MethodId} {below : List Frame} {meth : Method} {c : Code} (l : Launch) {b : Nat} {xs : Nat → Int32} (C0 : lw_At p s m meth c b 6 xs) (dC : Nat → ClassId) (dI : Nat → Nat → Nat) (ad : Nat → Nat) (A : Nat → Prop) (hA : ∀ q : Nat, s.heap.size ≤ q → A q) (hA2 : ∀ q : Nat, A q → s.heap.size ≤ q) (hbA : ¬ A b) (x_x m_x o_q x_q1 x_q4 x_q10 x_q16 x_q17 x_q23 x_q27 x_q31 x_q32 x_q49 x_q51 x_q53 x_q78 x_q89 x_q96 x_q2 m_q1 m_q3 m_q5 m_q7 m_q9 m_q11 m_q13 m_q15 m_q17 m_q19 m_q21 m_q23 m_q25 m_q27 m_q29 m_q31 : Nat) (x_y3 m_y2 : ClassId) (H : Heap) (locs : List Loc) (ls : Array Slot) (hK : va_K (dC, dI) vwCl [(x_y3, .byte), (m_y2, .int)] s) (hP : va_P (dC, dI) vwCl [(x_x, .inr (10, [.ref x_q1, .ref x_q4, .ref x_q10, .ref x_q16, .ref x_q17, .ref x_q23, .ref x_q27, .ref x_q31, .ref x_q32, .ref x_q49, .ref x_q51, .ref x_q53, .ref x_q78, .ref x_q89, .ref x_q96, .int (-1), .int 0, .int (-1), .int (-1)])), (x_q1, .inr (9, [.ref x_q2, .int 0, .int 0, .int 0, .int 0, .int 0, .int 0, .ref (ad 25), .long 0, .int 0, .long 0, .int 0, .int 0, .int 0, .int 0])), (x_q2, .inl (x_y3, 940, .inl (fun _ => 0))), (m_q1, .inl (m_y2, 940, .inl (fun _ => 0))), (m_x, .inr (11, [.int 0, .ref m_q1, .int 0, .int 0, .int 0, .int 0, .int 0, .int 0, .int 0, .int 0, .int 0, .int 0, .long 0, .int 0, .ref m_q3, .ref m_q5, .ref m_q7, .ref m_q9, .ref m_q11, .ref m_q13, .ref m_q15, .ref m_q17, .ref m_q19, .int 0, .int 0, .int 0, .int 0, .int (-1), .int (-1), .long 0, .long 0, .ref m_q21, .ref m_q23, .int 0, .int (-1), .int 0, .ref m_q25, .int 0, .ref m_q27, .ref m_q29, .int 0, .int 0, .ref m_q31, .int 0, .int 0, .int 0, .int 0]))] H) (hD : va_D A [(x_x, .inr (10, [.ref x_q1, .ref x_q4, .ref x_q10, .ref x_q16, .ref x_q17, .ref x_q23, .ref x_q27, .ref x_q31, .ref x_q32, .ref x_q49, .ref x_q51, .ref x_q53, .ref x_q78, .ref x_q89, .ref x_q96, .int (-1), .int 0, .int (-1), .int (-1)])), (x_q1, .inr (9, [.ref x_q2, .int 0, .int 0, .int 0, .int 0, .int 0, .int 0, .ref (ad 25), .long 0, .int 0, .long 0, .int 0, .int 0, .int 0, .int 0])), (x_q2, .inl (x_y3, 940, .inl (fun _ => 0))), (m_q1, .inl (m_y2, 940, .inl (fun _ => 0))), (m_x, .inr (11, [.int 0, .ref m_q1, .int 0, .int 0, .int 0, .int 0, .int 0, .int 0, .int 0, .int 0, .int 0, .int 0, .long 0, .int 0, .ref m_q3, .ref m_q5, .ref m_q7, .ref m_q9, .ref m_q11, .ref m_q13, .ref m_q15, .ref m_q17, .ref m_q19, .int 0, .int 0, .int 0, .int 0, .int (-1), .int (-1), .long 0, .long 0, .ref m_q21, .ref m_q23, .int 0, .int (-1), .int 0, .ref m_q25, .int 0, .ref m_q27, .ref m_q29, .int 0, .int 0, .ref m_q31, .int 0, .int 0, .int 0, .int 0]))]) (hS : va_S A s.heap H locs) (hE : EV ad A s s.heap) (hl : lv_has ls 8 [(4, .int 0), (3, .ref o_q), (2, .ref m_x), (1, .ref x_x), (0, .ref b)]) : W p l e room_1 s m #[Value.ref b] below meth c H locs 314 7149 (lw_Z below #[Value.ref b] s) (F0 m 216 ls []) := by
  obtain ⟨hx, hb, hr, hml, hown, hts0, hX, hbl, hlocks, hgv⟩ := id C0
  have hts : ∀ w ∈ lw_tbl, w.before #[Value.ref b] s = true := hts0
  obtain ⟨a1, x1⟩ : ∃ y : Int32, xs 1 = y := ⟨_, rfl⟩
  obtain ⟨a2, x2⟩ : ∃ y : Int32, xs 2 = y := ⟨_, rfl⟩
  obtain ⟨a3, x3⟩ : ∃ y : Int32, xs 3 = y := ⟨_, rfl⟩
  obtain ⟨a4, x4⟩ : ∃ y : Int32, xs 4 = y := ⟨_, rfl⟩
  obtain ⟨a5, x5⟩ : ∃ y : Int32, xs 5 = y := ⟨_, rfl⟩
  refine lv_aload_n hx hb dL_law_216 rfl (lv_at hl 3 rfl) ?_
  refine lv_aload_n hx hb dL_law_217 rfl (lv_at hl 4 rfl) ?_
  refine lv_iload hx hb dL_law_218 (lv_at hl 0 rfl) ?_
  refine lv_iconst (v := 1) hx hb dL_law_220 (by decide) ?_
  refine lv_iadd hx hb dL_law_221 ?_
  refine zz_top (v := 1) (by decide) ?_
  refine va_sld hx hb hX hbl hbA hS (i := 1) (zz_in (by decide)) dL_law_222 ?_
  refine zz_top (v := a1) (x1) ?_
  refine lv_aload_n hx hb dL_law_223 rfl (lv_at hl 4 rfl) ?_
  refine lv_iload hx hb dL_law_224 (lv_at hl 0 rfl) ?_
  refine lv_iconst (v := 2) hx hb dL_law_226 (by decide) ?_
  refine lv_iadd hx hb dL_law_227 ?_
  refine zz_top (v := 2) (by decide) ?_
  refine va_sld hx hb hX hbl hbA hS (i := 2) (zz_in (by decide)) dL_law_228 ?_
  refine zz_top (v := a2) (x2) ?_
  refine lv_aload_n hx hb dL_law_229 rfl (lv_at hl 4 rfl) ?_
  refine lv_iload hx hb dL_law_230 (lv_at hl 0 rfl) ?_
  refine lv_iconst (v := 3) hx hb dL_law_232 (by decide) ?_
  refine lv_iadd hx hb dL_law_233 ?_
  refine zz_top (v := 3) (by decide) ?_
  refine va_sld hx hb hX hbl hbA hS (i := 3) (zz_in (by decide)) dL_law_234 ?_
  refine zz_top (v := a3) (x3) ?_
  refine lv_aload_n hx hb dL_law_235 rfl (lv_at hl 4 rfl) ?_
  refine lv_iload hx hb dL_law_236 (lv_at hl 0 rfl) ?_
  refine lv_iconst (v := 4) hx hb dL_law_238 (by decide) ?_
  refine lv_iadd hx hb dL_law_239 ?_
  refine zz_top (v := 4) (by decide) ?_
  refine va_sld hx hb hX hbl hbA hS (i := 4) (zz_in (by decide)) dL_law_240 ?_
  refine zz_top (v := a4) (x4) ?_
  refine lv_aload_n hx hb dL_law_241 rfl (lv_at hl 4 rfl) ?_
  refine lv_iload hx hb dL_law_242 (lv_at hl 0 rfl) ?_
  refine lv_iconst (v := 5) hx hb dL_law_244 (by decide) ?_
  refine lv_iadd hx hb dL_law_245 ?_
  refine zz_top (v := 5) (by decide) ?_
  refine va_sld hx hb hX hbl hbA hS (i := 5) (zz_in (by decide)) dL_law_246 ?_
  refine zz_top (v := a5) (x5) ?_
  have hPc := hP.sub (ws' := [(x_x, .inr (10, [.ref x_q1, .ref x_q4, .ref x_q10, .ref x_q16, .ref x_q17, .ref x_q23, .ref x_q27, .ref x_q31, .ref x_q32, .ref x_q49, .ref x_q51, .ref x_q53, .ref x_q78, .ref x_q89, .ref x_q96, .int (-1), .int 0, .int (-1), .int (-1)])), (x_q1, .inr (9, [.ref x_q2, .int 0, .int 0, .int 0, .int 0, .int 0, .int 0, .ref (ad 25), .long 0, .int 0, .long 0, .int 0, .int 0, .int 0, .int 0])), (x_q2, .inl (x_y3, 940, .inl (fun _ => 0)))]) [0, 1, 2] rfl
  have hDc := hD.sub (ws' := [(x_x, .inr (10, [.ref x_q1, .ref x_q4, .ref x_q10, .ref x_q16, .ref x_q17, .ref x_q23, .ref x_q27, .ref x_q31, .ref x_q32, .ref x_q49, .ref x_q51, .ref x_q53, .ref x_q78, .ref x_q89, .ref x_q96, .int (-1), .int 0, .int (-1), .int (-1)])), (x_q1, .inr (9, [.ref x_q2, .int 0, .int 0, .int 0, .int 0, .int 0, .int 0, .ref (ad 25), .long 0, .int 0, .long 0, .int 0, .int 0, .int 0, .int 0])), (x_q2, .inl (x_y3, 940, .inl (fun _ => 0)))]) [0, 1, 2] (by decide) rfl
  have hKc := hK.sub (tys' := [(x_y3, .byte)]) [0] rfl
  have hFc := va_free (wc := [(x_x, .inr (10, [.ref x_q1, .ref x_q4, .ref x_q10, .ref x_q16, .ref x_q17, .ref x_q23, .ref x_q27, .ref x_q31, .ref x_q32, .ref x_q49, .ref x_q51, .ref x_q53, .ref x_q78, .ref x_q89, .ref x_q96, .int (-1), .int 0, .int (-1), .int (-1)])), (x_q1, .inr (9, [.ref x_q2, .int 0, .int 0, .int 0, .int 0, .int 0, .int 0, .ref (ad 25), .long 0, .int 0, .long 0, .int 0, .int 0, .int 0, .int 0])), (x_q2, .inl (x_y3, 940, .inl (fun _ => 0)))]) hD hS hA [0, 1, 2] rfl
  refine va_calli (va_runV (As := [.int a1, .int a2, .int a3, .int a4, .int a5]) (rest := []) ⟨hx, hb, hml, hown, hts⟩ (k_X11_feed l dC dI ad x_x x_q1 x_q4 x_q10 x_q16 x_q17 x_q23 x_q27 x_q31 x_q32 x_q49 x_q51 x_q53 x_q78 x_q89 x_q96 x_q2 a1 a2 a3 a4 a5 x_y3 H.size) (cwV 5 hts gT_X11_feed_26 rfl rfl rfl (by decide +kernel) ⟨Nat.le_of_ble_eq_true rfl, Nat.le_of_ble_eq_true rfl⟩) ⟨fun a U g mk q => ⟨q.1, CP.blind q.2⟩, va_recv hKc hPc (ci := 10) (q0 := 0) rfl rfl, fun U hU hW => ⟨rfl, CP.of hPc hKc hDc hE hS hFc hU hW⟩⟩ rfl rfl hl.1 rfl (lv_room (Nat.le_of_ble_eq_true rfl)) dL_law_247 ⟨Nat.le_of_ble_eq_true rfl, Nat.le_of_ble_eq_true rfl⟩) hS (fun q _ h => hFc q h) hFc (fun r1 u t H1 locs ht hvm hw hB hz1 hk1 hS => ?_)
  obtain ⟨hP1, hK1, hD1⟩ := hB
  rw [ht] at hP1
  obtain ⟨hP, hD⟩ := va_join (wr := [(m_q1, .inl (m_y2, 940, .inl (fun _ => 0))), (m_x, .inr (11, [.int 0, .ref m_q1, .int 0, .int 0, .int 0, .int 0, .int 0, .int 0, .int 0, .int 0, .int 0, .int 0, .long 0, .int 0, .ref m_q3, .ref m_q5, .ref m_q7, .ref m_q9, .ref m_q11, .ref m_q13, .ref m_q15, .ref m_q17, .ref m_q19, .int 0, .int 0, .int 0, .int 0, .int (-1), .int (-1), .long 0, .long 0, .ref m_q21, .ref m_q23, .int 0, .int (-1), .int 0, .ref m_q25, .int 0, .ref m_q27, .ref m_q29, .int 0, .int 0, .ref m_q31, .int 0, .int 0, .int 0, .int 0]))]) (w1 := []) hP hD [0, 1, 2] [3, 4] rfl rfl (by decide) (by decide) hk1 hFc hP1 hD1
  generalize H1 = H at hP hS ⊢
  clear hPc hDc hKc hFc hP1 hD1 hK1 hk1 hz1
  have hP : va_P (dC, dI) vwCl [(m_q1, .inl (m_y2, 940, .inl (fun _ => 0))), (m_x, .inr (11, [.int 0, .ref m_q1, .int 0, .int 0, .int 0, .int 0, .int 0, .int 0, .int 0, .int 0, .int 0, .int 0, .long 0, .int 0, .ref m_q3, .ref m_q5, .ref m_q7, .ref m_q9, .ref m_q11, .ref m_q13, .ref m_q15, .ref m_q17, .ref m_q19, .int 0, .int 0, .int 0, .int 0, .int (-1), .int (-1), .long 0, .long 0, .ref m_q21, .ref m_q23, .int 0, .int (-1), .int 0, .ref m_q25, .int 0, .ref m_q27, .ref m_q29, .int 0, .int 0, .ref m_q31, .int 0, .int 0, .int 0, .int 0]))] H := hP
  have hD : va_D A [(m_q1, .inl (m_y2, 940, .inl (fun _ => 0))), (m_x, .inr (11, [.int 0, .ref m_q1, .int 0, .int 0, .int 0, .int 0, .int 0, .int 0, .int 0, .int 0, .int 0, .int 0, .long 0, .int 0, .ref m_q3, .ref m_q5, .ref m_q7, .ref m_q9, .ref m_q11, .ref m_q13, .ref m_q15, .ref m_q17, .ref m_q19, .int 0, .int 0, .int 0, .int 0, .int (-1), .int (-1), .long 0, .long 0, .ref m_q21, .ref m_q23, .int 0, .int (-1), .int 0, .ref m_q25, .int 0, .ref m_q27, .ref m_q29, .int 0, .int 0, .ref m_q31, .int 0, .int 0, .int 0, .int 0]))] := hD
  refine zz_top (v := 20) hw ?_
  refine lv_aload_n hx hb dL_law_250 rfl (lv_at hl 2 rfl) ?_
  refine lv_aload_n hx hb dL_law_251 rfl (lv_at hl 4 rfl) ?_
  refine lv_iload hx hb dL_law_252 (lv_at hl 0 rfl) ?_
  refine lv_iconst (v := 1) hx hb dL_law_254 (by decide) ?_
  refine lv_iadd hx hb dL_law_255 ?_
  refine zz_top (v := 1) (by decide) ?_
  refine va_sld hx hb hX hbl hbA hS (i := 1) (zz_in (by decide)) dL_law_256 ?_
  refine zz_top (v := a1) (x1) ?_
  refine lv_aload_n hx hb dL_law_257 rfl (lv_at hl 4 rfl) ?_
  refine lv_iload hx hb dL_law_258 (lv_at hl 0 rfl) ?_
  refine lv_iconst (v := 2) hx hb dL_law_260 (by decide) ?_
  refine lv_iadd hx hb dL_law_261 ?_
  refine zz_top (v := 2) (by decide) ?_
  refine va_sld hx hb hX hbl hbA hS (i := 2) (zz_in (by decide)) dL_law_262 ?_
  refine zz_top (v := a2) (x2) ?_
  refine lv_aload_n hx hb dL_law_263 rfl (lv_at hl 4 rfl) ?_
  refine lv_iload hx hb dL_law_264 (lv_at hl 0 rfl) ?_
  refine lv_iconst (v := 3) hx hb dL_law_266 (by decide) ?_
  refine lv_iadd hx hb dL_law_267 ?_
  refine zz_top (v := 3) (by decide) ?_
  refine va_sld hx hb hX hbl hbA hS (i := 3) (zz_in (by decide)) dL_law_268 ?_
  refine zz_top (v := a3) (x3) ?_
  refine lv_aload_n hx hb dL_law_269 rfl (lv_at hl 4 rfl) ?_
  refine lv_iload hx hb dL_law_270 (lv_at hl 0 rfl) ?_
  refine lv_iconst (v := 4) hx hb dL_law_272 (by decide) ?_
  refine lv_iadd hx hb dL_law_273 ?_
  refine zz_top (v := 4) (by decide) ?_
  refine va_sld hx hb hX hbl hbA hS (i := 4) (zz_in (by decide)) dL_law_274 ?_
  refine zz_top (v := a4) (x4) ?_
  refine lv_aload_n hx hb dL_law_275 rfl (lv_at hl 4 rfl) ?_
  refine lv_iload hx hb dL_law_276 (lv_at hl 0 rfl) ?_
  refine lv_iconst (v := 5) hx hb dL_law_278 (by decide) ?_
  refine lv_iadd hx hb dL_law_279 ?_
  refine zz_top (v := 5) (by decide) ?_
  refine va_sld hx hb hX hbl hbA hS (i := 5) (zz_in (by decide)) dL_law_280 ?_
  refine zz_top (v := a5) (x5) ?_
  have hPc := hP.sub (ws' := [(m_q1, .inl (m_y2, 940, .inl (fun _ => 0))), (m_x, .inr (11, [.int 0, .ref m_q1, .int 0, .int 0, .int 0, .int 0, .int 0, .int 0, .int 0, .int 0, .int 0, .int 0, .long 0, .int 0, .ref m_q3, .ref m_q5, .ref m_q7, .ref m_q9, .ref m_q11, .ref m_q13, .ref m_q15, .ref m_q17, .ref m_q19, .int 0, .int 0, .int 0, .int 0, .int (-1), .int (-1), .long 0, .long 0, .ref m_q21, .ref m_q23, .int 0, .int (-1), .int 0, .ref m_q25, .int 0, .ref m_q27, .ref m_q29, .int 0, .int 0, .ref m_q31, .int 0, .int 0, .int 0, .int 0]))]) [0, 1] rfl
  have hDc := hD.sub (ws' := [(m_q1, .inl (m_y2, 940, .inl (fun _ => 0))), (m_x, .inr (11, [.int 0, .ref m_q1, .int 0, .int 0, .int 0, .int 0, .int 0, .int 0, .int 0, .int 0, .int 0, .int 0, .long 0, .int 0, .ref m_q3, .ref m_q5, .ref m_q7, .ref m_q9, .ref m_q11, .ref m_q13, .ref m_q15, .ref m_q17, .ref m_q19, .int 0, .int 0, .int 0, .int 0, .int (-1), .int (-1), .long 0, .long 0, .ref m_q21, .ref m_q23, .int 0, .int (-1), .int 0, .ref m_q25, .int 0, .ref m_q27, .ref m_q29, .int 0, .int 0, .ref m_q31, .int 0, .int 0, .int 0, .int 0]))]) [0, 1] (by decide) rfl
  have hKc := hK.sub (tys' := [(m_y2, .int)]) [1] rfl
  have hFc := va_free (wc := [(m_q1, .inl (m_y2, 940, .inl (fun _ => 0))), (m_x, .inr (11, [.int 0, .ref m_q1, .int 0, .int 0, .int 0, .int 0, .int 0, .int 0, .int 0, .int 0, .int 0, .int 0, .long 0, .int 0, .ref m_q3, .ref m_q5, .ref m_q7, .ref m_q9, .ref m_q11, .ref m_q13, .ref m_q15, .ref m_q17, .ref m_q19, .int 0, .int 0, .int 0, .int 0, .int (-1), .int (-1), .long 0, .long 0, .ref m_q21, .ref m_q23, .int 0, .int (-1), .int 0, .ref m_q25, .int 0, .ref m_q27, .ref m_q29, .int 0, .int 0, .ref m_q31, .int 0, .int 0, .int 0, .int 0]))]) hD hS hA [0, 1] rfl
  refine va_calli (va_runV (As := [.int a1, .int a2, .int a3, .int a4, .int a5]) (rest := [.int 20]) ⟨hx, hb, hml, hown, hts⟩ (k_X12_feed l dC dI ad m_x m_q1 m_q3 m_q5 m_q7 m_q9 m_q11 m_q13 m_q15 m_q17 m_q19 m_q21 m_q23 m_q25 m_q27 m_q29 m_q31 a1 a2 a3 a4 a5 m_y2 H.size) (cwV 5 hts gT_X12_feed_30 rfl rfl rfl (by decide +kernel) ⟨Nat.le_of_ble_eq_true rfl, Nat.le_of_ble_eq_true rfl⟩) ⟨fun a U g mk q => ⟨q.1, CP.blind q.2⟩, va_recv hKc hPc (ci := 11) (q0 := 1) rfl rfl, fun U hU hW => ⟨rfl, CP.of hPc hKc hDc hE hS hFc hU hW⟩⟩ rfl rfl hl.1 rfl (lv_room (Nat.le_of_ble_eq_true rfl)) dL_law_281 ⟨Nat.le_of_ble_eq_true rfl, Nat.le_of_ble_eq_true rfl⟩) hS (fun q _ h => hFc q h) hFc (fun r2 u t H1 locs ht hvm hw hB hz1 hk1 hS => ?_)
  obtain ⟨hP1, hK1, hD1⟩ := hB
  rw [ht] at hP1
  obtain ⟨hP, hD⟩ := va_join (wr := []) (w1 := []) hP hD [0, 1] [] rfl rfl (by decide) (by decide) hk1 hFc hP1 hD1
  generalize H1 = H at hP hS ⊢
  clear hPc hDc hKc hFc hP1 hD1 hK1 hk1 hz1
  have hP : va_P (dC, dI) vwCl [] H := hP
  have hD : va_D A [] := hD
  refine zz_top (v := 20) hw ?_
  refine lv_icmp_eq (tgt := 1476) hx hb dL_law_284 (by decide) (fun _ => ?_) (fun c3 => absurd (by decide) c3)
  exact law_end l C0 hA2 hbA hS hl (Nat.le_of_ble_eq_true rfl) (Nat.le_of_ble_eq_true rfl)
set_option maxHeartbeats 4000000 in
set_option maxRecDepth 100000 in
theorem lawc_end {p : Program} {e : Env} {s : State} {m : MethodId} {below : List Frame} {meth : Method} {c : Code} (l : Launch) {b : Nat} {xs : Nat → Int32} (C0 : lw_At p s m meth c b 6 xs) (dC : Nat → ClassId) (dI : Nat → Nat → Nat) (ad : Nat → Nat) (A : Nat → Prop) (hA : ∀ q : Nat, s.heap.size ≤ q → A q) (hA2 : ∀ q : Nat, A q → s.heap.size ≤ q) (hbA : ¬ A b) (x_x m_x o_q x_q1 x_q4 x_q10 x_q16 x_q17 x_q23 x_q27 x_q31 x_q32 x_q49 x_q51 x_q53 x_q78 x_q89 x_q96 x_q2 m_q1 m_q3 m_q5 m_q7 m_q9 m_q11 m_q13 m_q15 m_q17 m_q19 m_q21 m_q23 m_q25 m_q27 m_q29 m_q31 : Nat) (H : Heap) (locs : List Loc) (ls : Array Slot) (hK : va_K (dC, dI) vwCl [] s) (hP : va_P (dC, dI) vwCl [(x_x, .inr (10, [.ref x_q1, .ref x_q4, .ref x_q10, .ref x_q16, .ref x_q17, .ref x_q23, .ref x_q27, .ref x_q31, .ref x_q32, .ref x_q49, .ref x_q51, .ref x_q53, .ref x_q78, .ref x_q89, .ref x_q96, .int (-1), .int 0, .int (-1), .int (-1)])), (x_q1, .inr (9, [.ref x_q2, .int 0, .int 0, .int 0, .int 0, .int 0, .int 0, .ref (ad 25), .long 0, .int 0, .long 0, .int 0, .int 0, .int 0, .int 0])), (m_x, .inr (11, [.int 0, .ref m_q1, .int 0, .int 0, .int 0, .int 0, .int 0, .int 0, .int 0, .int 0, .int 0, .int 0, .long 0, .int 0, .ref m_q3, .ref m_q5, .ref m_q7, .ref m_q9, .ref m_q11, .ref m_q13, .ref m_q15, .ref m_q17, .ref m_q19, .int 0, .int 0, .int 0, .int 0, .int (-1), .int (-1), .long 0, .long 0, .ref m_q21, .ref m_q23, .int 0, .int (-1), .int 0, .ref m_q25, .int 0, .ref m_q27, .ref m_q29, .int 0, .int 0, .ref m_q31, .int 0, .int 0, .int 0, .int 0]))] H) (hD : va_D A [(x_x, .inr (10, [.ref x_q1, .ref x_q4, .ref x_q10, .ref x_q16, .ref x_q17, .ref x_q23, .ref x_q27, .ref x_q31, .ref x_q32, .ref x_q49, .ref x_q51, .ref x_q53, .ref x_q78, .ref x_q89, .ref x_q96, .int (-1), .int 0, .int (-1), .int (-1)])), (x_q1, .inr (9, [.ref x_q2, .int 0, .int 0, .int 0, .int 0, .int 0, .int 0, .ref (ad 25), .long 0, .int 0, .long 0, .int 0, .int 0, .int 0, .int 0])), (m_x, .inr (11, [.int 0, .ref m_q1, .int 0, .int 0, .int 0, .int 0, .int 0, .int 0, .int 0, .int 0, .int 0, .int 0, .long 0, .int 0, .ref m_q3, .ref m_q5, .ref m_q7, .ref m_q9, .ref m_q11, .ref m_q13, .ref m_q15, .ref m_q17, .ref m_q19, .int 0, .int 0, .int 0, .int 0, .int (-1), .int (-1), .long 0, .long 0, .ref m_q21, .ref m_q23, .int 0, .int (-1), .int 0, .ref m_q25, .int 0, .ref m_q27, .ref m_q29, .int 0, .int 0, .ref m_q31, .int 0, .int 0, .int 0, .int 0]))]) (hS : va_S A s.heap H locs) (hE : EV ad A s s.heap) (hl : lv_has ls 8 [(4, .int 0), (3, .ref o_q), (2, .ref m_x), (1, .ref x_x), (0, .ref b)]) : W p l e room_1 s m #[Value.ref b] below meth c H locs 314 7149 (lw_Z below #[Value.ref b] s) (F0 m 289 ls []) := by
  obtain ⟨hx, hb, hr, hml, hown, hts0, hX, hbl, hlocks, hgv⟩ := id C0
  have hts : ∀ w ∈ lw_tbl, w.before #[Value.ref b] s = true := hts0
  have hv : xs 1 = 0 ∨ (xs 1 < 0) ∨ (0 < xs 1) := by
    clear hP hD hK hS hE; simp only [Int32.lt_iff_toInt_lt, Int32.le_iff_toInt_le, ← Int32.toInt_inj, Int32.reduceToInt]; omega
  rcases hv with hv | hv | hv
  · have x1 : xs 1 = 0 := hv
    refine lv_aload_n hx hb dL_law_289 rfl (lv_at hl 3 rfl) ?_
    refine lv_aload_n hx hb dL_law_290 rfl (lv_at hl 4 rfl) ?_
    refine lv_iload hx hb dL_law_291 (lv_at hl 0 rfl) ?_
    refine lv_iconst (v := 1) hx hb dL_law_293 (by decide) ?_
    refine lv_iadd hx hb dL_law_294 ?_
    refine zz_top (v := 1) (by decide) ?_
    refine va_sld hx hb hX hbl hbA hS (i := 1) (zz_in (by decide)) dL_law_295 ?_
    refine zz_top (v := 0) (x1) ?_
    have hPc := hP.sub (ws' := [(x_x, .inr (10, [.ref x_q1, .ref x_q4, .ref x_q10, .ref x_q16, .ref x_q17, .ref x_q23, .ref x_q27, .ref x_q31, .ref x_q32, .ref x_q49, .ref x_q51, .ref x_q53, .ref x_q78, .ref x_q89, .ref x_q96, .int (-1), .int 0, .int (-1), .int (-1)])), (x_q1, .inr (9, [.ref x_q2, .int 0, .int 0, .int 0, .int 0, .int 0, .int 0, .ref (ad 25), .long 0, .int 0, .long 0, .int 0, .int 0, .int 0, .int 0]))]) [0, 1] rfl
    have hDc := hD.sub (ws' := [(x_x, .inr (10, [.ref x_q1, .ref x_q4, .ref x_q10, .ref x_q16, .ref x_q17, .ref x_q23, .ref x_q27, .ref x_q31, .ref x_q32, .ref x_q49, .ref x_q51, .ref x_q53, .ref x_q78, .ref x_q89, .ref x_q96, .int (-1), .int 0, .int (-1), .int (-1)])), (x_q1, .inr (9, [.ref x_q2, .int 0, .int 0, .int 0, .int 0, .int 0, .int 0, .ref (ad 25), .long 0, .int 0, .long 0, .int 0, .int 0, .int 0, .int 0]))]) [0, 1] (by decide) rfl
    have hKc := hK.sub (tys' := []) [] rfl
    have hFc := va_free (wc := [(x_x, .inr (10, [.ref x_q1, .ref x_q4, .ref x_q10, .ref x_q16, .ref x_q17, .ref x_q23, .ref x_q27, .ref x_q31, .ref x_q32, .ref x_q49, .ref x_q51, .ref x_q53, .ref x_q78, .ref x_q89, .ref x_q96, .int (-1), .int 0, .int (-1), .int (-1)])), (x_q1, .inr (9, [.ref x_q2, .int 0, .int 0, .int 0, .int 0, .int 0, .int 0, .ref (ad 25), .long 0, .int 0, .long 0, .int 0, .int 0, .int 0, .int 0]))]) hD hS hA [0, 1] rfl
    refine va_calli (va_runV (As := [.int 0]) (rest := []) ⟨hx, hb, hml, hown, hts⟩ (k_X11_end l dC dI ad x_x x_q1 x_q4 x_q10 x_q16 x_q17 x_q23 x_q27 x_q31 x_q32 x_q49 x_q51 x_q53 x_q78 x_q89 x_q96 x_q2 H.size) (cwV 1 hts gT_X11_end_31 rfl rfl rfl (by decide +kernel) ⟨Nat.le_of_ble_eq_true rfl, Nat.le_of_ble_eq_true rfl⟩) ⟨fun a U g mk q => ⟨q.1, CP.blind q.2⟩, va_recv hKc hPc (ci := 10) (q0 := 0) rfl rfl, fun U hU hW => ⟨rfl, CP.of hPc hKc hDc hE hS hFc hU hW⟩⟩ rfl rfl hl.1 rfl (lv_room (Nat.le_of_ble_eq_true rfl)) dL_law_296 ⟨Nat.le_of_ble_eq_true rfl, Nat.le_of_ble_eq_true rfl⟩) hS (fun q _ h => hFc q h) hFc (fun r1 u t H1 locs ht hvm hw hB hz1 hk1 hS => ?_)
    obtain ⟨hP1, hK1, hD1⟩ := hB
    rw [ht] at hP1
    obtain ⟨hP, hD⟩ := va_join (wr := [(m_x, .inr (11, [.int 0, .ref m_q1, .int 0, .int 0, .int 0, .int 0, .int 0, .int 0, .int 0, .int 0, .int 0, .int 0, .long 0, .int 0, .ref m_q3, .ref m_q5, .ref m_q7, .ref m_q9, .ref m_q11, .ref m_q13, .ref m_q15, .ref m_q17, .ref m_q19, .int 0, .int 0, .int 0, .int 0, .int (-1), .int (-1), .long 0, .long 0, .ref m_q21, .ref m_q23, .int 0, .int (-1), .int 0, .ref m_q25, .int 0, .ref m_q27, .ref m_q29, .int 0, .int 0, .ref m_q31, .int 0, .int 0, .int 0, .int 0]))]) (w1 := []) hP hD [0, 1] [2] rfl rfl (by decide) (by decide) hk1 hFc hP1 hD1
    generalize H1 = H at hP hS ⊢
    clear hPc hDc hKc hFc hP1 hD1 hK1 hk1 hz1
    have hP : va_P (dC, dI) vwCl [(m_x, .inr (11, [.int 0, .ref m_q1, .int 0, .int 0, .int 0, .int 0, .int 0, .int 0, .int 0, .int 0, .int 0, .int 0, .long 0, .int 0, .ref m_q3, .ref m_q5, .ref m_q7, .ref m_q9, .ref m_q11, .ref m_q13, .ref m_q15, .ref m_q17, .ref m_q19, .int 0, .int 0, .int 0, .int 0, .int (-1), .int (-1), .long 0, .long 0, .ref m_q21, .ref m_q23, .int 0, .int (-1), .int 0, .ref m_q25, .int 0, .ref m_q27, .ref m_q29, .int 0, .int 0, .ref m_q31, .int 0, .int 0, .int 0, .int 0]))] H := hP
    have hD : va_D A [(m_x, .inr (11, [.int 0, .ref m_q1, .int 0, .int 0, .int 0, .int 0, .int 0, .int 0, .int 0, .int 0, .int 0, .int 0, .long 0, .int 0, .ref m_q3, .ref m_q5, .ref m_q7, .ref m_q9, .ref m_q11, .ref m_q13, .ref m_q15, .ref m_q17, .ref m_q19, .int 0, .int 0, .int 0, .int 0, .int (-1), .int (-1), .long 0, .long 0, .ref m_q21, .ref m_q23, .int 0, .int (-1), .int 0, .ref m_q25, .int 0, .ref m_q27, .ref m_q29, .int 0, .int 0, .ref m_q31, .int 0, .int 0, .int 0, .int 0]))] := hD
    refine zz_top (v := 1) hw ?_
    refine lv_aload_n hx hb dL_law_299 rfl (lv_at hl 2 rfl) ?_
    refine lv_aload_n hx hb dL_law_300 rfl (lv_at hl 4 rfl) ?_
    refine lv_iload hx hb dL_law_301 (lv_at hl 0 rfl) ?_
    refine lv_iconst (v := 1) hx hb dL_law_303 (by decide) ?_
    refine lv_iadd hx hb dL_law_304 ?_
    refine zz_top (v := 1) (by decide) ?_
    refine va_sld hx hb hX hbl hbA hS (i := 1) (zz_in (by decide)) dL_law_305 ?_
    refine zz_top (v := 0) (x1) ?_
    have hPc := hP.sub (ws' := [(m_x, .inr (11, [.int 0, .ref m_q1, .int 0, .int 0, .int 0, .int 0, .int 0, .int 0, .int 0, .int 0, .int 0, .int 0, .long 0, .int 0, .ref m_q3, .ref m_q5, .ref m_q7, .ref m_q9, .ref m_q11, .ref m_q13, .ref m_q15, .ref m_q17, .ref m_q19, .int 0, .int 0, .int 0, .int 0, .int (-1), .int (-1), .long 0, .long 0, .ref m_q21, .ref m_q23, .int 0, .int (-1), .int 0, .ref m_q25, .int 0, .ref m_q27, .ref m_q29, .int 0, .int 0, .ref m_q31, .int 0, .int 0, .int 0, .int 0]))]) [0] rfl
    have hDc := hD.sub (ws' := [(m_x, .inr (11, [.int 0, .ref m_q1, .int 0, .int 0, .int 0, .int 0, .int 0, .int 0, .int 0, .int 0, .int 0, .int 0, .long 0, .int 0, .ref m_q3, .ref m_q5, .ref m_q7, .ref m_q9, .ref m_q11, .ref m_q13, .ref m_q15, .ref m_q17, .ref m_q19, .int 0, .int 0, .int 0, .int 0, .int (-1), .int (-1), .long 0, .long 0, .ref m_q21, .ref m_q23, .int 0, .int (-1), .int 0, .ref m_q25, .int 0, .ref m_q27, .ref m_q29, .int 0, .int 0, .ref m_q31, .int 0, .int 0, .int 0, .int 0]))]) [0] (by decide) rfl
    have hKc := hK.sub (tys' := []) [] rfl
    have hFc := va_free (wc := [(m_x, .inr (11, [.int 0, .ref m_q1, .int 0, .int 0, .int 0, .int 0, .int 0, .int 0, .int 0, .int 0, .int 0, .int 0, .long 0, .int 0, .ref m_q3, .ref m_q5, .ref m_q7, .ref m_q9, .ref m_q11, .ref m_q13, .ref m_q15, .ref m_q17, .ref m_q19, .int 0, .int 0, .int 0, .int 0, .int (-1), .int (-1), .long 0, .long 0, .ref m_q21, .ref m_q23, .int 0, .int (-1), .int 0, .ref m_q25, .int 0, .ref m_q27, .ref m_q29, .int 0, .int 0, .ref m_q31, .int 0, .int 0, .int 0, .int 0]))]) hD hS hA [0] rfl
    refine va_calli (va_runV (As := [.int 0]) (rest := [.int 1]) ⟨hx, hb, hml, hown, hts⟩ (k_X12_end l dC dI ad m_x m_q1 m_q3 m_q5 m_q7 m_q9 m_q11 m_q13 m_q15 m_q17 m_q19 m_q21 m_q23 m_q25 m_q27 m_q29 m_q31 H.size) (cwV 1 hts gT_X12_end_35 rfl rfl rfl (by decide +kernel) ⟨Nat.le_of_ble_eq_true rfl, Nat.le_of_ble_eq_true rfl⟩) ⟨fun a U g mk q => ⟨q.1, CP.blind q.2⟩, va_recv hKc hPc (ci := 11) (q0 := 0) rfl rfl, fun U hU hW => ⟨rfl, CP.of hPc hKc hDc hE hS hFc hU hW⟩⟩ rfl rfl hl.1 rfl (lv_room (Nat.le_of_ble_eq_true rfl)) dL_law_306 ⟨Nat.le_of_ble_eq_true rfl, Nat.le_of_ble_eq_true rfl⟩) hS (fun q _ h => hFc q h) hFc (fun r2 u t H1 locs ht hvm hw hB hz1 hk1 hS => ?_)
    obtain ⟨hP1, hK1, hD1⟩ := hB
    rw [ht] at hP1
    obtain ⟨hP, hD⟩ := va_join (wr := []) (w1 := []) hP hD [0] [] rfl rfl (by decide) (by decide) hk1 hFc hP1 hD1
    generalize H1 = H at hP hS ⊢
    clear hPc hDc hKc hFc hP1 hD1 hK1 hk1 hz1
    have hP : va_P (dC, dI) vwCl [] H := hP
    have hD : va_D A [] := hD
    refine zz_top (v := 1) hw ?_
    refine lv_icmp_eq (tgt := 1476) hx hb dL_law_309 (by decide) (fun _ => ?_) (fun c3 => absurd (by decide) c3)
    exact law_end l C0 hA2 hbA hS hl (Nat.le_of_ble_eq_true rfl) (Nat.le_of_ble_eq_true rfl)
  · obtain ⟨a1, x1⟩ : ∃ y : Int32, xs 1 = y := ⟨_, rfl⟩
    rw [x1] at hv
    have e0_0 := hv
    refine lv_aload_n hx hb dL_law_289 rfl (lv_at hl 3 rfl) ?_
    refine lv_aload_n hx hb dL_law_290 rfl (lv_at hl 4 rfl) ?_
    refine lv_iload hx hb dL_law_291 (lv_at hl 0 rfl) ?_
    refine lv_iconst (v := 1) hx hb dL_law_293 (by decide) ?_
    refine lv_iadd hx hb dL_law_294 ?_
    refine zz_top (v := 1) (by decide) ?_
    refine va_sld hx hb hX hbl hbA hS (i := 1) (zz_in (by decide)) dL_law_295 ?_
    refine zz_top (v := a1) (x1) ?_
    have hPc := hP.sub (ws' := []) [] rfl
    have hDc := hD.sub (ws' := []) [] (by decide) rfl
    have hKc := hK.sub (tys' := []) [] rfl
    have hFc := va_free (wc := []) hD hS hA [] rfl
    refine va_calli (va_runV (As := [.int a1]) (rest := []) ⟨hx, hb, hml, hown, hts⟩ (k_X11_end_1 l dC dI ad x_x a1 H.size e0_0) (cwV 1 hts gT_X11_end_31 rfl rfl rfl (by decide +kernel) ⟨Nat.le_of_ble_eq_true rfl, Nat.le_of_ble_eq_true rfl⟩) ⟨fun a U g mk q => ⟨q.1, CP.blind q.2⟩, va_recv hK hP (ci := 10) (q0 := 0) rfl rfl, fun U hU hW => ⟨rfl, CP.of hPc hKc hDc hE hS hFc hU hW⟩⟩ rfl rfl hl.1 rfl (lv_room (Nat.le_of_ble_eq_true rfl)) dL_law_296 ⟨Nat.le_of_ble_eq_true rfl, Nat.le_of_ble_eq_true rfl⟩) hS (fun q _ h => hFc q h) hFc (fun r1 u t H1 locs ht hvm hw hB hz1 hk1 hS => ?_)
    obtain ⟨hP1, hK1, hD1⟩ := hB
    rw [ht] at hP1
    obtain ⟨hP, hD⟩ := va_join (wr := [(x_x, .inr (10, [.ref x_q1, .ref x_q4, .ref x_q10, .ref x_q16, .ref x_q17, .ref x_q23, .ref x_q27, .ref x_q31, .ref x_q32, .ref x_q49, .ref x_q51, .ref x_q53, .ref x_q78, .ref x_q89, .ref x_q96, .int (-1), .int 0, .int (-1), .int (-1)])), (x_q1, .inr (9, [.ref x_q2, .int 0, .int 0, .int 0, .int 0, .int 0, .int 0, .ref (ad 25), .long 0, .int 0, .long 0, .int 0, .int 0, .int 0, .int 0])), (m_x, .inr (11, [.int 0, .ref m_q1, .int 0, .int 0, .int 0, .int 0, .int 0, .int 0, .int 0, .int 0, .int 0, .int 0, .long 0, .int 0, .ref m_q3, .ref m_q5, .ref m_q7, .ref m_q9, .ref m_q11, .ref m_q13, .ref m_q15, .ref m_q17, .ref m_q19, .int 0, .int 0, .int 0, .int 0, .int (-1), .int (-1), .long 0, .long 0, .ref m_q21, .ref m_q23, .int 0, .int (-1), .int 0, .ref m_q25, .int 0, .ref m_q27, .ref m_q29, .int 0, .int 0, .ref m_q31, .int 0, .int 0, .int 0, .int 0]))]) (w1 := []) hP hD [] [0, 1, 2] rfl rfl (by decide) (by decide) hk1 hFc hP1 hD1
    generalize H1 = H at hP hS ⊢
    clear hPc hDc hKc hFc hP1 hD1 hK1 hk1 hz1
    have hP : va_P (dC, dI) vwCl [(x_x, .inr (10, [.ref x_q1, .ref x_q4, .ref x_q10, .ref x_q16, .ref x_q17, .ref x_q23, .ref x_q27, .ref x_q31, .ref x_q32, .ref x_q49, .ref x_q51, .ref x_q53, .ref x_q78, .ref x_q89, .ref x_q96, .int (-1), .int 0, .int (-1), .int (-1)])), (x_q1, .inr (9, [.ref x_q2, .int 0, .int 0, .int 0, .int 0, .int 0, .int 0, .ref (ad 25), .long 0, .int 0, .long 0, .int 0, .int 0, .int 0, .int 0])), (m_x, .inr (11, [.int 0, .ref m_q1, .int 0, .int 0, .int 0, .int 0, .int 0, .int 0, .int 0, .int 0, .int 0, .int 0, .long 0, .int 0, .ref m_q3, .ref m_q5, .ref m_q7, .ref m_q9, .ref m_q11, .ref m_q13, .ref m_q15, .ref m_q17, .ref m_q19, .int 0, .int 0, .int 0, .int 0, .int (-1), .int (-1), .long 0, .long 0, .ref m_q21, .ref m_q23, .int 0, .int (-1), .int 0, .ref m_q25, .int 0, .ref m_q27, .ref m_q29, .int 0, .int 0, .ref m_q31, .int 0, .int 0, .int 0, .int 0]))] H := hP
    have hD : va_D A [(x_x, .inr (10, [.ref x_q1, .ref x_q4, .ref x_q10, .ref x_q16, .ref x_q17, .ref x_q23, .ref x_q27, .ref x_q31, .ref x_q32, .ref x_q49, .ref x_q51, .ref x_q53, .ref x_q78, .ref x_q89, .ref x_q96, .int (-1), .int 0, .int (-1), .int (-1)])), (x_q1, .inr (9, [.ref x_q2, .int 0, .int 0, .int 0, .int 0, .int 0, .int 0, .ref (ad 25), .long 0, .int 0, .long 0, .int 0, .int 0, .int 0, .int 0])), (m_x, .inr (11, [.int 0, .ref m_q1, .int 0, .int 0, .int 0, .int 0, .int 0, .int 0, .int 0, .int 0, .int 0, .int 0, .long 0, .int 0, .ref m_q3, .ref m_q5, .ref m_q7, .ref m_q9, .ref m_q11, .ref m_q13, .ref m_q15, .ref m_q17, .ref m_q19, .int 0, .int 0, .int 0, .int 0, .int (-1), .int (-1), .long 0, .long 0, .ref m_q21, .ref m_q23, .int 0, .int (-1), .int 0, .ref m_q25, .int 0, .ref m_q27, .ref m_q29, .int 0, .int 0, .ref m_q31, .int 0, .int 0, .int 0, .int 0]))] := hD
    refine zz_top (v := 0) hw ?_
    refine lv_aload_n hx hb dL_law_299 rfl (lv_at hl 2 rfl) ?_
    refine lv_aload_n hx hb dL_law_300 rfl (lv_at hl 4 rfl) ?_
    refine lv_iload hx hb dL_law_301 (lv_at hl 0 rfl) ?_
    refine lv_iconst (v := 1) hx hb dL_law_303 (by decide) ?_
    refine lv_iadd hx hb dL_law_304 ?_
    refine zz_top (v := 1) (by decide) ?_
    refine va_sld hx hb hX hbl hbA hS (i := 1) (zz_in (by decide)) dL_law_305 ?_
    refine zz_top (v := a1) (x1) ?_
    have hPc := hP.sub (ws' := [(m_x, .inr (11, [.int 0, .ref m_q1, .int 0, .int 0, .int 0, .int 0, .int 0, .int 0, .int 0, .int 0, .int 0, .int 0, .long 0, .int 0, .ref m_q3, .ref m_q5, .ref m_q7, .ref m_q9, .ref m_q11, .ref m_q13, .ref m_q15, .ref m_q17, .ref m_q19, .int 0, .int 0, .int 0, .int 0, .int (-1), .int (-1), .long 0, .long 0, .ref m_q21, .ref m_q23, .int 0, .int (-1), .int 0, .ref m_q25, .int 0, .ref m_q27, .ref m_q29, .int 0, .int 0, .ref m_q31, .int 0, .int 0, .int 0, .int 0]))]) [2] rfl
    have hDc := hD.sub (ws' := [(m_x, .inr (11, [.int 0, .ref m_q1, .int 0, .int 0, .int 0, .int 0, .int 0, .int 0, .int 0, .int 0, .int 0, .int 0, .long 0, .int 0, .ref m_q3, .ref m_q5, .ref m_q7, .ref m_q9, .ref m_q11, .ref m_q13, .ref m_q15, .ref m_q17, .ref m_q19, .int 0, .int 0, .int 0, .int 0, .int (-1), .int (-1), .long 0, .long 0, .ref m_q21, .ref m_q23, .int 0, .int (-1), .int 0, .ref m_q25, .int 0, .ref m_q27, .ref m_q29, .int 0, .int 0, .ref m_q31, .int 0, .int 0, .int 0, .int 0]))]) [2] (by decide) rfl
    have hKc := hK.sub (tys' := []) [] rfl
    have hFc := va_free (wc := [(m_x, .inr (11, [.int 0, .ref m_q1, .int 0, .int 0, .int 0, .int 0, .int 0, .int 0, .int 0, .int 0, .int 0, .int 0, .long 0, .int 0, .ref m_q3, .ref m_q5, .ref m_q7, .ref m_q9, .ref m_q11, .ref m_q13, .ref m_q15, .ref m_q17, .ref m_q19, .int 0, .int 0, .int 0, .int 0, .int (-1), .int (-1), .long 0, .long 0, .ref m_q21, .ref m_q23, .int 0, .int (-1), .int 0, .ref m_q25, .int 0, .ref m_q27, .ref m_q29, .int 0, .int 0, .ref m_q31, .int 0, .int 0, .int 0, .int 0]))]) hD hS hA [2] rfl
    refine va_calli (va_runV (As := [.int a1]) (rest := [.int 0]) ⟨hx, hb, hml, hown, hts⟩ (k_X12_end_1 l dC dI ad m_x m_q1 m_q3 m_q5 m_q7 m_q9 m_q11 m_q13 m_q15 m_q17 m_q19 m_q21 m_q23 m_q25 m_q27 m_q29 m_q31 a1 H.size e0_0) (cwV 1 hts gT_X12_end_35 rfl rfl rfl (by decide +kernel) ⟨Nat.le_of_ble_eq_true rfl, Nat.le_of_ble_eq_true rfl⟩) ⟨fun a U g mk q => ⟨q.1, CP.blind q.2⟩, va_recv hKc hPc (ci := 11) (q0 := 0) rfl rfl, fun U hU hW => ⟨rfl, CP.of hPc hKc hDc hE hS hFc hU hW⟩⟩ rfl rfl hl.1 rfl (lv_room (Nat.le_of_ble_eq_true rfl)) dL_law_306 ⟨Nat.le_of_ble_eq_true rfl, Nat.le_of_ble_eq_true rfl⟩) hS (fun q _ h => hFc q h) hFc (fun r2 u t H1 locs ht hvm hw hB hz1 hk1 hS => ?_)
    obtain ⟨hP1, hK1, hD1⟩ := hB
    rw [ht] at hP1
    obtain ⟨hP, hD⟩ := va_join (wr := [(x_x, .inr (10, [.ref x_q1, .ref x_q4, .ref x_q10, .ref x_q16, .ref x_q17, .ref x_q23, .ref x_q27, .ref x_q31, .ref x_q32, .ref x_q49, .ref x_q51, .ref x_q53, .ref x_q78, .ref x_q89, .ref x_q96, .int (-1), .int 0, .int (-1), .int (-1)])), (x_q1, .inr (9, [.ref x_q2, .int 0, .int 0, .int 0, .int 0, .int 0, .int 0, .ref (ad 25), .long 0, .int 0, .long 0, .int 0, .int 0, .int 0, .int 0]))]) (w1 := []) hP hD [2] [0, 1] rfl rfl (by decide) (by decide) hk1 hFc hP1 hD1
    generalize H1 = H at hP hS ⊢
    clear hPc hDc hKc hFc hP1 hD1 hK1 hk1 hz1
    have hP : va_P (dC, dI) vwCl [(x_x, .inr (10, [.ref x_q1, .ref x_q4, .ref x_q10, .ref x_q16, .ref x_q17, .ref x_q23, .ref x_q27, .ref x_q31, .ref x_q32, .ref x_q49, .ref x_q51, .ref x_q53, .ref x_q78, .ref x_q89, .ref x_q96, .int (-1), .int 0, .int (-1), .int (-1)])), (x_q1, .inr (9, [.ref x_q2, .int 0, .int 0, .int 0, .int 0, .int 0, .int 0, .ref (ad 25), .long 0, .int 0, .long 0, .int 0, .int 0, .int 0, .int 0]))] H := hP
    have hD : va_D A [(x_x, .inr (10, [.ref x_q1, .ref x_q4, .ref x_q10, .ref x_q16, .ref x_q17, .ref x_q23, .ref x_q27, .ref x_q31, .ref x_q32, .ref x_q49, .ref x_q51, .ref x_q53, .ref x_q78, .ref x_q89, .ref x_q96, .int (-1), .int 0, .int (-1), .int (-1)])), (x_q1, .inr (9, [.ref x_q2, .int 0, .int 0, .int 0, .int 0, .int 0, .int 0, .ref (ad 25), .long 0, .int 0, .long 0, .int 0, .int 0, .int 0, .int 0]))] := hD
    refine zz_top (v := 0) hw ?_
    refine lv_icmp_eq (tgt := 1476) hx hb dL_law_309 (by decide) (fun _ => ?_) (fun c3 => absurd (by decide) c3)
    exact law_end l C0 hA2 hbA hS hl (Nat.le_of_ble_eq_true rfl) (Nat.le_of_ble_eq_true rfl)
  · obtain ⟨a1, x1⟩ : ∃ y : Int32, xs 1 = y := ⟨_, rfl⟩
    rw [x1] at hv
    have e0_0 := hv
    refine lv_aload_n hx hb dL_law_289 rfl (lv_at hl 3 rfl) ?_
    refine lv_aload_n hx hb dL_law_290 rfl (lv_at hl 4 rfl) ?_
    refine lv_iload hx hb dL_law_291 (lv_at hl 0 rfl) ?_
    refine lv_iconst (v := 1) hx hb dL_law_293 (by decide) ?_
    refine lv_iadd hx hb dL_law_294 ?_
    refine zz_top (v := 1) (by decide) ?_
    refine va_sld hx hb hX hbl hbA hS (i := 1) (zz_in (by decide)) dL_law_295 ?_
    refine zz_top (v := a1) (x1) ?_
    have hPc := hP.sub (ws' := [(x_x, .inr (10, [.ref x_q1, .ref x_q4, .ref x_q10, .ref x_q16, .ref x_q17, .ref x_q23, .ref x_q27, .ref x_q31, .ref x_q32, .ref x_q49, .ref x_q51, .ref x_q53, .ref x_q78, .ref x_q89, .ref x_q96, .int (-1), .int 0, .int (-1), .int (-1)])), (x_q1, .inr (9, [.ref x_q2, .int 0, .int 0, .int 0, .int 0, .int 0, .int 0, .ref (ad 25), .long 0, .int 0, .long 0, .int 0, .int 0, .int 0, .int 0]))]) [0, 1] rfl
    have hDc := hD.sub (ws' := [(x_x, .inr (10, [.ref x_q1, .ref x_q4, .ref x_q10, .ref x_q16, .ref x_q17, .ref x_q23, .ref x_q27, .ref x_q31, .ref x_q32, .ref x_q49, .ref x_q51, .ref x_q53, .ref x_q78, .ref x_q89, .ref x_q96, .int (-1), .int 0, .int (-1), .int (-1)])), (x_q1, .inr (9, [.ref x_q2, .int 0, .int 0, .int 0, .int 0, .int 0, .int 0, .ref (ad 25), .long 0, .int 0, .long 0, .int 0, .int 0, .int 0, .int 0]))]) [0, 1] (by decide) rfl
    have hKc := hK.sub (tys' := []) [] rfl
    have hFc := va_free (wc := [(x_x, .inr (10, [.ref x_q1, .ref x_q4, .ref x_q10, .ref x_q16, .ref x_q17, .ref x_q23, .ref x_q27, .ref x_q31, .ref x_q32, .ref x_q49, .ref x_q51, .ref x_q53, .ref x_q78, .ref x_q89, .ref x_q96, .int (-1), .int 0, .int (-1), .int (-1)])), (x_q1, .inr (9, [.ref x_q2, .int 0, .int 0, .int 0, .int 0, .int 0, .int 0, .ref (ad 25), .long 0, .int 0, .long 0, .int 0, .int 0, .int 0, .int 0]))]) hD hS hA [0, 1] rfl
    refine va_calli (va_runV (As := [.int a1]) (rest := []) ⟨hx, hb, hml, hown, hts⟩ (k_X11_end_2 l dC dI ad x_x x_q1 x_q4 x_q10 x_q16 x_q17 x_q23 x_q27 x_q31 x_q32 x_q49 x_q51 x_q53 x_q78 x_q89 x_q96 x_q2 a1 H.size e0_0) (cwV 1 hts gT_X11_end_31 rfl rfl rfl (by decide +kernel) ⟨Nat.le_of_ble_eq_true rfl, Nat.le_of_ble_eq_true rfl⟩) ⟨fun a U g mk q => ⟨q.1, CP.blind q.2⟩, va_recv hKc hPc (ci := 10) (q0 := 0) rfl rfl, fun U hU hW => ⟨rfl, CP.of hPc hKc hDc hE hS hFc hU hW⟩⟩ rfl rfl hl.1 rfl (lv_room (Nat.le_of_ble_eq_true rfl)) dL_law_296 ⟨Nat.le_of_ble_eq_true rfl, Nat.le_of_ble_eq_true rfl⟩) hS (fun q _ h => hFc q h) hFc (fun r1 u t H1 locs ht hvm hw hB hz1 hk1 hS => ?_)
    obtain ⟨hP1, hK1, hD1⟩ := hB
    rw [ht] at hP1
    obtain ⟨hP, hD⟩ := va_join (wr := [(m_x, .inr (11, [.int 0, .ref m_q1, .int 0, .int 0, .int 0, .int 0, .int 0, .int 0, .int 0, .int 0, .int 0, .int 0, .long 0, .int 0, .ref m_q3, .ref m_q5, .ref m_q7, .ref m_q9, .ref m_q11, .ref m_q13, .ref m_q15, .ref m_q17, .ref m_q19, .int 0, .int 0, .int 0, .int 0, .int (-1), .int (-1), .long 0, .long 0, .ref m_q21, .ref m_q23, .int 0, .int (-1), .int 0, .ref m_q25, .int 0, .ref m_q27, .ref m_q29, .int 0, .int 0, .ref m_q31, .int 0, .int 0, .int 0, .int 0]))]) (w1 := []) hP hD [0, 1] [2] rfl rfl (by decide) (by decide) hk1 hFc hP1 hD1
    generalize H1 = H at hP hS ⊢
    clear hPc hDc hKc hFc hP1 hD1 hK1 hk1 hz1
    have hP : va_P (dC, dI) vwCl [(m_x, .inr (11, [.int 0, .ref m_q1, .int 0, .int 0, .int 0, .int 0, .int 0, .int 0, .int 0, .int 0, .int 0, .int 0, .long 0, .int 0, .ref m_q3, .ref m_q5, .ref m_q7, .ref m_q9, .ref m_q11, .ref m_q13, .ref m_q15, .ref m_q17, .ref m_q19, .int 0, .int 0, .int 0, .int 0, .int (-1), .int (-1), .long 0, .long 0, .ref m_q21, .ref m_q23, .int 0, .int (-1), .int 0, .ref m_q25, .int 0, .ref m_q27, .ref m_q29, .int 0, .int 0, .ref m_q31, .int 0, .int 0, .int 0, .int 0]))] H := hP
    have hD : va_D A [(m_x, .inr (11, [.int 0, .ref m_q1, .int 0, .int 0, .int 0, .int 0, .int 0, .int 0, .int 0, .int 0, .int 0, .int 0, .long 0, .int 0, .ref m_q3, .ref m_q5, .ref m_q7, .ref m_q9, .ref m_q11, .ref m_q13, .ref m_q15, .ref m_q17, .ref m_q19, .int 0, .int 0, .int 0, .int 0, .int (-1), .int (-1), .long 0, .long 0, .ref m_q21, .ref m_q23, .int 0, .int (-1), .int 0, .ref m_q25, .int 0, .ref m_q27, .ref m_q29, .int 0, .int 0, .ref m_q31, .int 0, .int 0, .int 0, .int 0]))] := hD
    refine zz_top (v := 0) hw ?_
    refine lv_aload_n hx hb dL_law_299 rfl (lv_at hl 2 rfl) ?_
    refine lv_aload_n hx hb dL_law_300 rfl (lv_at hl 4 rfl) ?_
    refine lv_iload hx hb dL_law_301 (lv_at hl 0 rfl) ?_
    refine lv_iconst (v := 1) hx hb dL_law_303 (by decide) ?_
    refine lv_iadd hx hb dL_law_304 ?_
    refine zz_top (v := 1) (by decide) ?_
    refine va_sld hx hb hX hbl hbA hS (i := 1) (zz_in (by decide)) dL_law_305 ?_
    refine zz_top (v := a1) (x1) ?_
    have hPc := hP.sub (ws' := [(m_x, .inr (11, [.int 0, .ref m_q1, .int 0, .int 0, .int 0, .int 0, .int 0, .int 0, .int 0, .int 0, .int 0, .int 0, .long 0, .int 0, .ref m_q3, .ref m_q5, .ref m_q7, .ref m_q9, .ref m_q11, .ref m_q13, .ref m_q15, .ref m_q17, .ref m_q19, .int 0, .int 0, .int 0, .int 0, .int (-1), .int (-1), .long 0, .long 0, .ref m_q21, .ref m_q23, .int 0, .int (-1), .int 0, .ref m_q25, .int 0, .ref m_q27, .ref m_q29, .int 0, .int 0, .ref m_q31, .int 0, .int 0, .int 0, .int 0]))]) [0] rfl
    have hDc := hD.sub (ws' := [(m_x, .inr (11, [.int 0, .ref m_q1, .int 0, .int 0, .int 0, .int 0, .int 0, .int 0, .int 0, .int 0, .int 0, .int 0, .long 0, .int 0, .ref m_q3, .ref m_q5, .ref m_q7, .ref m_q9, .ref m_q11, .ref m_q13, .ref m_q15, .ref m_q17, .ref m_q19, .int 0, .int 0, .int 0, .int 0, .int (-1), .int (-1), .long 0, .long 0, .ref m_q21, .ref m_q23, .int 0, .int (-1), .int 0, .ref m_q25, .int 0, .ref m_q27, .ref m_q29, .int 0, .int 0, .ref m_q31, .int 0, .int 0, .int 0, .int 0]))]) [0] (by decide) rfl
    have hKc := hK.sub (tys' := []) [] rfl
    have hFc := va_free (wc := [(m_x, .inr (11, [.int 0, .ref m_q1, .int 0, .int 0, .int 0, .int 0, .int 0, .int 0, .int 0, .int 0, .int 0, .int 0, .long 0, .int 0, .ref m_q3, .ref m_q5, .ref m_q7, .ref m_q9, .ref m_q11, .ref m_q13, .ref m_q15, .ref m_q17, .ref m_q19, .int 0, .int 0, .int 0, .int 0, .int (-1), .int (-1), .long 0, .long 0, .ref m_q21, .ref m_q23, .int 0, .int (-1), .int 0, .ref m_q25, .int 0, .ref m_q27, .ref m_q29, .int 0, .int 0, .ref m_q31, .int 0, .int 0, .int 0, .int 0]))]) hD hS hA [0] rfl
    refine va_calli (va_runV (As := [.int a1]) (rest := [.int 0]) ⟨hx, hb, hml, hown, hts⟩ (k_X12_end_2 l dC dI ad m_x m_q1 m_q3 m_q5 m_q7 m_q9 m_q11 m_q13 m_q15 m_q17 m_q19 m_q21 m_q23 m_q25 m_q27 m_q29 m_q31 a1 H.size e0_0) (cwV 1 hts gT_X12_end_35 rfl rfl rfl (by decide +kernel) ⟨Nat.le_of_ble_eq_true rfl, Nat.le_of_ble_eq_true rfl⟩) ⟨fun a U g mk q => ⟨q.1, CP.blind q.2⟩, va_recv hKc hPc (ci := 11) (q0 := 0) rfl rfl, fun U hU hW => ⟨rfl, CP.of hPc hKc hDc hE hS hFc hU hW⟩⟩ rfl rfl hl.1 rfl (lv_room (Nat.le_of_ble_eq_true rfl)) dL_law_306 ⟨Nat.le_of_ble_eq_true rfl, Nat.le_of_ble_eq_true rfl⟩) hS (fun q _ h => hFc q h) hFc (fun r2 u t H1 locs ht hvm hw hB hz1 hk1 hS => ?_)
    obtain ⟨hP1, hK1, hD1⟩ := hB
    rw [ht] at hP1
    obtain ⟨hP, hD⟩ := va_join (wr := []) (w1 := []) hP hD [0] [] rfl rfl (by decide) (by decide) hk1 hFc hP1 hD1
    generalize H1 = H at hP hS ⊢
    clear hPc hDc hKc hFc hP1 hD1 hK1 hk1 hz1
    have hP : va_P (dC, dI) vwCl [] H := hP
    have hD : va_D A [] := hD
    refine zz_top (v := 0) hw ?_
    refine lv_icmp_eq (tgt := 1476) hx hb dL_law_309 (by decide) (fun _ => ?_) (fun c3 => absurd (by decide) c3)
    exact law_end l C0 hA2 hbA hS hl (Nat.le_of_ble_eq_true rfl) (Nat.le_of_ble_eq_true rfl)
set_option maxHeartbeats 4000000 in
set_option maxRecDepth 100000 in
theorem lawc_park {p : Program} {e : Env} {s : State} {m : MethodId} {below : List Frame} {meth : Method} {c : Code} (l : Launch) {b : Nat} {xs : Nat → Int32} (C0 : lw_At p s m meth c b 6 xs) (dC : Nat → ClassId) (dI : Nat → Nat → Nat) (ad : Nat → Nat) (A : Nat → Prop) (hA : ∀ q : Nat, s.heap.size ≤ q → A q) (hA2 : ∀ q : Nat, A q → s.heap.size ≤ q) (hbA : ¬ A b) (x_x m_x o_q x_q1 x_q4 x_q10 x_q16 x_q17 x_q23 x_q27 x_q31 x_q32 x_q49 x_q51 x_q53 x_q78 x_q89 x_q96 x_q2 x_q5 x_q6 x_q7 x_q8 x_q9 x_q11 x_q12 x_q13 x_q14 x_q15 x_q24 x_q25 x_q26 x_q33 m_q5 m_q13 m_q15 m_q1 m_q3 m_q7 m_q9 m_q11 m_q17 m_q19 m_q21 m_q23 m_q25 m_q27 m_q29 m_q31 : Nat) (m_y6 m_y14 m_y16 m_y4 : ClassId) (H : Heap) (locs : List Loc) (ls : Array Slot) (hK : va_K (dC, dI) vwCl [(m_y4, .int), (m_y6, .int), (m_y14, .long), (m_y16, .long)] s) (hP : va_P (dC, dI) vwCl [(x_x, .inr (10, [.ref x_q1, .ref x_q4, .ref x_q10, .ref x_q16, .ref x_q17, .ref x_q23, .ref x_q27, .ref x_q31, .ref x_q32, .ref x_q49, .ref x_q51, .ref x_q53, .ref x_q78, .ref x_q89, .ref x_q96, .int (-1), .int 0, .int (-1), .int (-1)])), (x_q1, .inr (9, [.ref x_q2, .int 0, .int 0, .int 0, .int 0, .int 0, .int 0, .ref (ad 25), .long 0, .int 0, .long 0, .int 0, .int 0, .int 0, .int 0])), (x_q4, .inr (5, [.ref x_q5, .ref x_q6, .ref x_q7, .ref x_q8, .ref x_q9, .int 0, .int 0, .int 0, .int 2, .int 0, .int 0, .int 0])), (x_q10, .inr (5, [.ref x_q11, .ref x_q12, .ref x_q13, .ref x_q14, .ref x_q15, .int 0, .int 0, .int 0, .int 2, .int 0, .int 0, .int 0])), (x_q16, .inr (6, [.int 0, .int 0])), (x_q23, .inr (8, [.ref x_q24, .ref x_q25, .ref x_q26, .int 0, .int 0])), (x_q32, .inr (4, [.ref x_q33, .int 0, .int 0])), (m_q5, .inl (m_y6, 61, .inl (fun _ => 0))), (m_q13, .inl (m_y14, 19, .inr (.inl (fun _ => 0)))), (m_q15, .inl (m_y16, 19, .inr (.inl (fun _ => 0)))), (m_x, .inr (11, [.int 0, .ref m_q1, .int 0, .int 0, .int 0, .int 0, .int 0, .int 0, .int 0, .int 0, .int 0, .int 0, .long 0, .int 0, .ref m_q3, .ref m_q5, .ref m_q7, .ref m_q9, .ref m_q11, .ref m_q13, .ref m_q15, .ref m_q17, .ref m_q19, .int 0, .int 0, .int 0, .int 0, .int (-1), .int (-1), .long 0, .long 0, .ref m_q21, .ref m_q23, .int 0, .int (-1), .int 0, .ref m_q25, .int 0, .ref m_q27, .ref m_q29, .int 0, .int 0, .ref m_q31, .int 0, .int 0, .int 0, .int 0])), (m_q3, .inl (m_y4, 373, .inl (upd (upd (fun _ => 0) 60 2) 62 2)))] H) (hD : va_D A [(x_x, .inr (10, [.ref x_q1, .ref x_q4, .ref x_q10, .ref x_q16, .ref x_q17, .ref x_q23, .ref x_q27, .ref x_q31, .ref x_q32, .ref x_q49, .ref x_q51, .ref x_q53, .ref x_q78, .ref x_q89, .ref x_q96, .int (-1), .int 0, .int (-1), .int (-1)])), (x_q1, .inr (9, [.ref x_q2, .int 0, .int 0, .int 0, .int 0, .int 0, .int 0, .ref (ad 25), .long 0, .int 0, .long 0, .int 0, .int 0, .int 0, .int 0])), (x_q4, .inr (5, [.ref x_q5, .ref x_q6, .ref x_q7, .ref x_q8, .ref x_q9, .int 0, .int 0, .int 0, .int 2, .int 0, .int 0, .int 0])), (x_q10, .inr (5, [.ref x_q11, .ref x_q12, .ref x_q13, .ref x_q14, .ref x_q15, .int 0, .int 0, .int 0, .int 2, .int 0, .int 0, .int 0])), (x_q16, .inr (6, [.int 0, .int 0])), (x_q23, .inr (8, [.ref x_q24, .ref x_q25, .ref x_q26, .int 0, .int 0])), (x_q32, .inr (4, [.ref x_q33, .int 0, .int 0])), (m_q5, .inl (m_y6, 61, .inl (fun _ => 0))), (m_q13, .inl (m_y14, 19, .inr (.inl (fun _ => 0)))), (m_q15, .inl (m_y16, 19, .inr (.inl (fun _ => 0)))), (m_x, .inr (11, [.int 0, .ref m_q1, .int 0, .int 0, .int 0, .int 0, .int 0, .int 0, .int 0, .int 0, .int 0, .int 0, .long 0, .int 0, .ref m_q3, .ref m_q5, .ref m_q7, .ref m_q9, .ref m_q11, .ref m_q13, .ref m_q15, .ref m_q17, .ref m_q19, .int 0, .int 0, .int 0, .int 0, .int (-1), .int (-1), .long 0, .long 0, .ref m_q21, .ref m_q23, .int 0, .int (-1), .int 0, .ref m_q25, .int 0, .ref m_q27, .ref m_q29, .int 0, .int 0, .ref m_q31, .int 0, .int 0, .int 0, .int 0])), (m_q3, .inl (m_y4, 373, .inl (upd (upd (fun _ => 0) 60 2) 62 2)))]) (hS : va_S A s.heap H locs) (hE : EV ad A s s.heap) (hl : lv_has ls 8 [(4, .int 0), (3, .ref o_q), (2, .ref m_x), (1, .ref x_x), (0, .ref b)]) : W p l e room_1 s m #[Value.ref b] below meth c H locs 314 7149 (lw_Z below #[Value.ref b] s) (F0 m 314 ls []) := by
  obtain ⟨hx, hb, hr, hml, hown, hts0, hX, hbl, hlocks, hgv⟩ := id C0
  have hts : ∀ w ∈ lw_tbl, w.before #[Value.ref b] s = true := hts0
  refine lv_aload_n hx hb dL_law_314 rfl (lv_at hl 3 rfl) ?_
  have hPc := hP.sub (ws' := [(x_x, .inr (10, [.ref x_q1, .ref x_q4, .ref x_q10, .ref x_q16, .ref x_q17, .ref x_q23, .ref x_q27, .ref x_q31, .ref x_q32, .ref x_q49, .ref x_q51, .ref x_q53, .ref x_q78, .ref x_q89, .ref x_q96, .int (-1), .int 0, .int (-1), .int (-1)])), (x_q1, .inr (9, [.ref x_q2, .int 0, .int 0, .int 0, .int 0, .int 0, .int 0, .ref (ad 25), .long 0, .int 0, .long 0, .int 0, .int 0, .int 0, .int 0])), (x_q4, .inr (5, [.ref x_q5, .ref x_q6, .ref x_q7, .ref x_q8, .ref x_q9, .int 0, .int 0, .int 0, .int 2, .int 0, .int 0, .int 0])), (x_q10, .inr (5, [.ref x_q11, .ref x_q12, .ref x_q13, .ref x_q14, .ref x_q15, .int 0, .int 0, .int 0, .int 2, .int 0, .int 0, .int 0])), (x_q16, .inr (6, [.int 0, .int 0])), (x_q23, .inr (8, [.ref x_q24, .ref x_q25, .ref x_q26, .int 0, .int 0])), (x_q32, .inr (4, [.ref x_q33, .int 0, .int 0]))]) [0, 1, 2, 3, 4, 5, 6] rfl
  have hDc := hD.sub (ws' := [(x_x, .inr (10, [.ref x_q1, .ref x_q4, .ref x_q10, .ref x_q16, .ref x_q17, .ref x_q23, .ref x_q27, .ref x_q31, .ref x_q32, .ref x_q49, .ref x_q51, .ref x_q53, .ref x_q78, .ref x_q89, .ref x_q96, .int (-1), .int 0, .int (-1), .int (-1)])), (x_q1, .inr (9, [.ref x_q2, .int 0, .int 0, .int 0, .int 0, .int 0, .int 0, .ref (ad 25), .long 0, .int 0, .long 0, .int 0, .int 0, .int 0, .int 0])), (x_q4, .inr (5, [.ref x_q5, .ref x_q6, .ref x_q7, .ref x_q8, .ref x_q9, .int 0, .int 0, .int 0, .int 2, .int 0, .int 0, .int 0])), (x_q10, .inr (5, [.ref x_q11, .ref x_q12, .ref x_q13, .ref x_q14, .ref x_q15, .int 0, .int 0, .int 0, .int 2, .int 0, .int 0, .int 0])), (x_q16, .inr (6, [.int 0, .int 0])), (x_q23, .inr (8, [.ref x_q24, .ref x_q25, .ref x_q26, .int 0, .int 0])), (x_q32, .inr (4, [.ref x_q33, .int 0, .int 0]))]) [0, 1, 2, 3, 4, 5, 6] (by decide) rfl
  have hKc := hK.sub (tys' := []) [] rfl
  have hFc := va_free (wc := [(x_x, .inr (10, [.ref x_q1, .ref x_q4, .ref x_q10, .ref x_q16, .ref x_q17, .ref x_q23, .ref x_q27, .ref x_q31, .ref x_q32, .ref x_q49, .ref x_q51, .ref x_q53, .ref x_q78, .ref x_q89, .ref x_q96, .int (-1), .int 0, .int (-1), .int (-1)])), (x_q1, .inr (9, [.ref x_q2, .int 0, .int 0, .int 0, .int 0, .int 0, .int 0, .ref (ad 25), .long 0, .int 0, .long 0, .int 0, .int 0, .int 0, .int 0])), (x_q4, .inr (5, [.ref x_q5, .ref x_q6, .ref x_q7, .ref x_q8, .ref x_q9, .int 0, .int 0, .int 0, .int 2, .int 0, .int 0, .int 0])), (x_q10, .inr (5, [.ref x_q11, .ref x_q12, .ref x_q13, .ref x_q14, .ref x_q15, .int 0, .int 0, .int 0, .int 2, .int 0, .int 0, .int 0])), (x_q16, .inr (6, [.int 0, .int 0])), (x_q23, .inr (8, [.ref x_q24, .ref x_q25, .ref x_q26, .int 0, .int 0])), (x_q32, .inr (4, [.ref x_q33, .int 0, .int 0]))]) hD hS hA [0, 1, 2, 3, 4, 5, 6] rfl
  refine va_calli (va_runV (As := []) (rest := []) ⟨hx, hb, hml, hown, hts⟩ (k_X11_park l dC dI ad x_x x_q1 x_q4 x_q10 x_q16 x_q17 x_q23 x_q27 x_q31 x_q32 x_q49 x_q51 x_q53 x_q78 x_q89 x_q96 x_q2 x_q5 x_q6 x_q7 x_q8 x_q9 x_q11 x_q12 x_q13 x_q14 x_q15 x_q24 x_q25 x_q26 x_q33 H.size) (cwV 0 hts gT_X11_park_36 rfl rfl rfl (by decide +kernel) ⟨Nat.le_of_ble_eq_true rfl, Nat.le_of_ble_eq_true rfl⟩) ⟨fun a U g mk q => ⟨q.1, CP.blind q.2⟩, va_recv hKc hPc (ci := 10) (q0 := 0) rfl rfl, fun U hU hW => ⟨rfl, CP.of hPc hKc hDc hE hS hFc hU hW⟩⟩ rfl rfl hl.1 rfl (lv_room (Nat.le_of_ble_eq_true rfl)) dL_law_315 ⟨Nat.le_of_ble_eq_true rfl, Nat.le_of_ble_eq_true rfl⟩) hS (fun q _ h => hFc q h) hFc (fun r1 u t H1 locs ht hvm hw hB hz1 hk1 hS => ?_)
  obtain ⟨hP1, hK1, hD1⟩ := hB
  rw [ht] at hP1
  obtain ⟨hP, hD⟩ := va_join (wr := [(m_q5, .inl (m_y6, 61, .inl (fun _ => 0))), (m_q13, .inl (m_y14, 19, .inr (.inl (fun _ => 0)))), (m_q15, .inl (m_y16, 19, .inr (.inl (fun _ => 0)))), (m_x, .inr (11, [.int 0, .ref m_q1, .int 0, .int 0, .int 0, .int 0, .int 0, .int 0, .int 0, .int 0, .int 0, .int 0, .long 0, .int 0, .ref m_q3, .ref m_q5, .ref m_q7, .ref m_q9, .ref m_q11, .ref m_q13, .ref m_q15, .ref m_q17, .ref m_q19, .int 0, .int 0, .int 0, .int 0, .int (-1), .int (-1), .long 0, .long 0, .ref m_q21, .ref m_q23, .int 0, .int (-1), .int 0, .ref m_q25, .int 0, .ref m_q27, .ref m_q29, .int 0, .int 0, .ref m_q31, .int 0, .int 0, .int 0, .int 0])), (m_q3, .inl (m_y4, 373, .inl (upd (upd (fun _ => 0) 60 2) 62 2)))]) (w1 := []) hP hD [0, 1, 2, 3, 4, 5, 6] [7, 8, 9, 10, 11] rfl rfl (by decide) (by decide) hk1 hFc hP1 hD1
  generalize H1 = H at hP hS ⊢
  clear hPc hDc hKc hFc hP1 hD1 hK1 hk1 hz1
  have hP : va_P (dC, dI) vwCl [(m_q5, .inl (m_y6, 61, .inl (fun _ => 0))), (m_q13, .inl (m_y14, 19, .inr (.inl (fun _ => 0)))), (m_q15, .inl (m_y16, 19, .inr (.inl (fun _ => 0)))), (m_x, .inr (11, [.int 0, .ref m_q1, .int 0, .int 0, .int 0, .int 0, .int 0, .int 0, .int 0, .int 0, .int 0, .int 0, .long 0, .int 0, .ref m_q3, .ref m_q5, .ref m_q7, .ref m_q9, .ref m_q11, .ref m_q13, .ref m_q15, .ref m_q17, .ref m_q19, .int 0, .int 0, .int 0, .int 0, .int (-1), .int (-1), .long 0, .long 0, .ref m_q21, .ref m_q23, .int 0, .int (-1), .int 0, .ref m_q25, .int 0, .ref m_q27, .ref m_q29, .int 0, .int 0, .ref m_q31, .int 0, .int 0, .int 0, .int 0])), (m_q3, .inl (m_y4, 373, .inl (upd (upd (fun _ => 0) 60 2) 62 2)))] H := hP
  have hD : va_D A [(m_q5, .inl (m_y6, 61, .inl (fun _ => 0))), (m_q13, .inl (m_y14, 19, .inr (.inl (fun _ => 0)))), (m_q15, .inl (m_y16, 19, .inr (.inl (fun _ => 0)))), (m_x, .inr (11, [.int 0, .ref m_q1, .int 0, .int 0, .int 0, .int 0, .int 0, .int 0, .int 0, .int 0, .int 0, .int 0, .long 0, .int 0, .ref m_q3, .ref m_q5, .ref m_q7, .ref m_q9, .ref m_q11, .ref m_q13, .ref m_q15, .ref m_q17, .ref m_q19, .int 0, .int 0, .int 0, .int 0, .int (-1), .int (-1), .long 0, .long 0, .ref m_q21, .ref m_q23, .int 0, .int (-1), .int 0, .ref m_q25, .int 0, .ref m_q27, .ref m_q29, .int 0, .int 0, .ref m_q31, .int 0, .int 0, .int 0, .int 0])), (m_q3, .inl (m_y4, 373, .inl (upd (upd (fun _ => 0) 60 2) 62 2)))] := hD
  refine zz_top (v := 0) hw ?_
  refine lv_aload_n hx hb dL_law_318 rfl (lv_at hl 2 rfl) ?_
  have hPc := hP.sub (ws' := [(m_q5, .inl (m_y6, 61, .inl (fun _ => 0))), (m_q13, .inl (m_y14, 19, .inr (.inl (fun _ => 0)))), (m_q15, .inl (m_y16, 19, .inr (.inl (fun _ => 0)))), (m_x, .inr (11, [.int 0, .ref m_q1, .int 0, .int 0, .int 0, .int 0, .int 0, .int 0, .int 0, .int 0, .int 0, .int 0, .long 0, .int 0, .ref m_q3, .ref m_q5, .ref m_q7, .ref m_q9, .ref m_q11, .ref m_q13, .ref m_q15, .ref m_q17, .ref m_q19, .int 0, .int 0, .int 0, .int 0, .int (-1), .int (-1), .long 0, .long 0, .ref m_q21, .ref m_q23, .int 0, .int (-1), .int 0, .ref m_q25, .int 0, .ref m_q27, .ref m_q29, .int 0, .int 0, .ref m_q31, .int 0, .int 0, .int 0, .int 0])), (m_q3, .inl (m_y4, 373, .inl (upd (upd (fun _ => 0) 60 2) 62 2)))]) [0, 1, 2, 3, 4] rfl
  have hDc := hD.sub (ws' := [(m_q5, .inl (m_y6, 61, .inl (fun _ => 0))), (m_q13, .inl (m_y14, 19, .inr (.inl (fun _ => 0)))), (m_q15, .inl (m_y16, 19, .inr (.inl (fun _ => 0)))), (m_x, .inr (11, [.int 0, .ref m_q1, .int 0, .int 0, .int 0, .int 0, .int 0, .int 0, .int 0, .int 0, .int 0, .int 0, .long 0, .int 0, .ref m_q3, .ref m_q5, .ref m_q7, .ref m_q9, .ref m_q11, .ref m_q13, .ref m_q15, .ref m_q17, .ref m_q19, .int 0, .int 0, .int 0, .int 0, .int (-1), .int (-1), .long 0, .long 0, .ref m_q21, .ref m_q23, .int 0, .int (-1), .int 0, .ref m_q25, .int 0, .ref m_q27, .ref m_q29, .int 0, .int 0, .ref m_q31, .int 0, .int 0, .int 0, .int 0])), (m_q3, .inl (m_y4, 373, .inl (upd (upd (fun _ => 0) 60 2) 62 2)))]) [0, 1, 2, 3, 4] (by decide) rfl
  have hKc := hK.sub (tys' := [(m_y4, .int), (m_y6, .int), (m_y14, .long), (m_y16, .long)]) [0, 1, 2, 3] rfl
  have hFc := va_free (wc := [(m_q5, .inl (m_y6, 61, .inl (fun _ => 0))), (m_q13, .inl (m_y14, 19, .inr (.inl (fun _ => 0)))), (m_q15, .inl (m_y16, 19, .inr (.inl (fun _ => 0)))), (m_x, .inr (11, [.int 0, .ref m_q1, .int 0, .int 0, .int 0, .int 0, .int 0, .int 0, .int 0, .int 0, .int 0, .int 0, .long 0, .int 0, .ref m_q3, .ref m_q5, .ref m_q7, .ref m_q9, .ref m_q11, .ref m_q13, .ref m_q15, .ref m_q17, .ref m_q19, .int 0, .int 0, .int 0, .int 0, .int (-1), .int (-1), .long 0, .long 0, .ref m_q21, .ref m_q23, .int 0, .int (-1), .int 0, .ref m_q25, .int 0, .ref m_q27, .ref m_q29, .int 0, .int 0, .ref m_q31, .int 0, .int 0, .int 0, .int 0])), (m_q3, .inl (m_y4, 373, .inl (upd (upd (fun _ => 0) 60 2) 62 2)))]) hD hS hA [0, 1, 2, 3, 4] rfl
  refine va_calli (va_runV (As := []) (rest := [.int 0]) ⟨hx, hb, hml, hown, hts⟩ (k_X12_park l dC dI ad m_x m_q5 m_q13 m_q15 m_q1 m_q3 m_q7 m_q9 m_q11 m_q17 m_q19 m_q21 m_q23 m_q25 m_q27 m_q29 m_q31 m_y6 m_y14 m_y16 m_y4 H.size) (cwV 0 hts gT_X12_park_40 rfl rfl rfl (by decide +kernel) ⟨Nat.le_of_ble_eq_true rfl, Nat.le_of_ble_eq_true rfl⟩) ⟨fun a U g mk q => ⟨q.1, CP.blind q.2⟩, va_recv hKc hPc (ci := 11) (q0 := 3) rfl rfl, fun U hU hW => ⟨rfl, CP.of hPc hKc hDc hE hS hFc hU hW⟩⟩ rfl rfl hl.1 rfl (lv_room (Nat.le_of_ble_eq_true rfl)) dL_law_319 ⟨Nat.le_of_ble_eq_true rfl, Nat.le_of_ble_eq_true rfl⟩) hS (fun q _ h => hFc q h) hFc (fun r2 u t H1 locs ht hvm hw hB hz1 hk1 hS => ?_)
  obtain ⟨hP1, hK1, hD1⟩ := hB
  rw [ht] at hP1
  obtain ⟨hP, hD⟩ := va_join (wr := []) (w1 := []) hP hD [0, 1, 2, 3, 4] [] rfl rfl (by decide) (by decide) hk1 hFc hP1 hD1
  generalize H1 = H at hP hS ⊢
  clear hPc hDc hKc hFc hP1 hD1 hK1 hk1 hz1
  have hP : va_P (dC, dI) vwCl [] H := hP
  have hD : va_D A [] := hD
  refine zz_top (v := 0) hw ?_
  refine lv_icmp_eq (tgt := 1476) hx hb dL_law_322 (by decide) (fun _ => ?_) (fun c3 => absurd (by decide) c3)
  exact law_end l C0 hA2 hbA hS hl (Nat.le_of_ble_eq_true rfl) (Nat.le_of_ble_eq_true rfl)
set_option maxHeartbeats 4000000 in
set_option maxRecDepth 100000 in
theorem lawc_fault {p : Program} {e : Env} {s : State} {m : MethodId} {below : List Frame} {meth : Method} {c : Code} (l : Launch) {b : Nat} {xs : Nat → Int32} (C0 : lw_At p s m meth c b 6 xs) (dC : Nat → ClassId) (dI : Nat → Nat → Nat) (ad : Nat → Nat) (A : Nat → Prop) (hA : ∀ q : Nat, s.heap.size ≤ q → A q) (hA2 : ∀ q : Nat, A q → s.heap.size ≤ q) (hbA : ¬ A b) (x_x m_x o_q x_q1 x_q4 x_q10 x_q16 x_q17 x_q23 x_q27 x_q31 x_q32 x_q49 x_q51 x_q53 x_q78 x_q89 x_q96 m_q1 m_q3 m_q5 m_q7 m_q9 m_q11 m_q13 m_q15 m_q17 m_q19 m_q21 m_q23 m_q25 m_q27 m_q29 m_q31 : Nat) (H : Heap) (locs : List Loc) (ls : Array Slot) (hK : va_K (dC, dI) vwCl [] s) (hP : va_P (dC, dI) vwCl [(x_x, .inr (10, [.ref x_q1, .ref x_q4, .ref x_q10, .ref x_q16, .ref x_q17, .ref x_q23, .ref x_q27, .ref x_q31, .ref x_q32, .ref x_q49, .ref x_q51, .ref x_q53, .ref x_q78, .ref x_q89, .ref x_q96, .int (-1), .int 0, .int (-1), .int (-1)])), (m_x, .inr (11, [.int 0, .ref m_q1, .int 0, .int 0, .int 0, .int 0, .int 0, .int 0, .int 0, .int 0, .int 0, .int 0, .long 0, .int 0, .ref m_q3, .ref m_q5, .ref m_q7, .ref m_q9, .ref m_q11, .ref m_q13, .ref m_q15, .ref m_q17, .ref m_q19, .int 0, .int 0, .int 0, .int 0, .int (-1), .int (-1), .long 0, .long 0, .ref m_q21, .ref m_q23, .int 0, .int (-1), .int 0, .ref m_q25, .int 0, .ref m_q27, .ref m_q29, .int 0, .int 0, .ref m_q31, .int 0, .int 0, .int 0, .int 0]))] H) (hD : va_D A [(x_x, .inr (10, [.ref x_q1, .ref x_q4, .ref x_q10, .ref x_q16, .ref x_q17, .ref x_q23, .ref x_q27, .ref x_q31, .ref x_q32, .ref x_q49, .ref x_q51, .ref x_q53, .ref x_q78, .ref x_q89, .ref x_q96, .int (-1), .int 0, .int (-1), .int (-1)])), (m_x, .inr (11, [.int 0, .ref m_q1, .int 0, .int 0, .int 0, .int 0, .int 0, .int 0, .int 0, .int 0, .int 0, .int 0, .long 0, .int 0, .ref m_q3, .ref m_q5, .ref m_q7, .ref m_q9, .ref m_q11, .ref m_q13, .ref m_q15, .ref m_q17, .ref m_q19, .int 0, .int 0, .int 0, .int 0, .int (-1), .int (-1), .long 0, .long 0, .ref m_q21, .ref m_q23, .int 0, .int (-1), .int 0, .ref m_q25, .int 0, .ref m_q27, .ref m_q29, .int 0, .int 0, .ref m_q31, .int 0, .int 0, .int 0, .int 0]))]) (hS : va_S A s.heap H locs) (hE : EV ad A s s.heap) (hl : lv_has ls 8 [(4, .int 0), (3, .ref o_q), (2, .ref m_x), (1, .ref x_x), (0, .ref b)]) : W p l e room_1 s m #[Value.ref b] below meth c H locs 314 7149 (lw_Z below #[Value.ref b] s) (F0 m 327 ls []) := by
  obtain ⟨hx, hb, hr, hml, hown, hts0, hX, hbl, hlocks, hgv⟩ := id C0
  have hts : ∀ w ∈ lw_tbl, w.before #[Value.ref b] s = true := hts0
  refine lv_aload_n hx hb dL_law_327 rfl (lv_at hl 3 rfl) ?_
  have hPc := hP.sub (ws' := [(x_x, .inr (10, [.ref x_q1, .ref x_q4, .ref x_q10, .ref x_q16, .ref x_q17, .ref x_q23, .ref x_q27, .ref x_q31, .ref x_q32, .ref x_q49, .ref x_q51, .ref x_q53, .ref x_q78, .ref x_q89, .ref x_q96, .int (-1), .int 0, .int (-1), .int (-1)]))]) [0] rfl
  have hDc := hD.sub (ws' := [(x_x, .inr (10, [.ref x_q1, .ref x_q4, .ref x_q10, .ref x_q16, .ref x_q17, .ref x_q23, .ref x_q27, .ref x_q31, .ref x_q32, .ref x_q49, .ref x_q51, .ref x_q53, .ref x_q78, .ref x_q89, .ref x_q96, .int (-1), .int 0, .int (-1), .int (-1)]))]) [0] (by decide) rfl
  have hKc := hK.sub (tys' := []) [] rfl
  have hFc := va_free (wc := [(x_x, .inr (10, [.ref x_q1, .ref x_q4, .ref x_q10, .ref x_q16, .ref x_q17, .ref x_q23, .ref x_q27, .ref x_q31, .ref x_q32, .ref x_q49, .ref x_q51, .ref x_q53, .ref x_q78, .ref x_q89, .ref x_q96, .int (-1), .int 0, .int (-1), .int (-1)]))]) hD hS hA [0] rfl
  refine va_calli (va_runV (As := []) (rest := []) ⟨hx, hb, hml, hown, hts⟩ (k_X11_fault l dC dI ad x_x x_q1 x_q4 x_q10 x_q16 x_q17 x_q23 x_q27 x_q31 x_q32 x_q49 x_q51 x_q53 x_q78 x_q89 x_q96 H.size) (cwV 0 hts gT_X11_fault_41 rfl rfl rfl (by decide +kernel) ⟨Nat.le_of_ble_eq_true rfl, Nat.le_of_ble_eq_true rfl⟩) ⟨fun a U g mk q => ⟨q.1, CP.blind q.2⟩, va_recv hKc hPc (ci := 10) (q0 := 0) rfl rfl, fun U hU hW => ⟨rfl, CP.of hPc hKc hDc hE hS hFc hU hW⟩⟩ rfl rfl hl.1 rfl (lv_room (Nat.le_of_ble_eq_true rfl)) dL_law_328 ⟨Nat.le_of_ble_eq_true rfl, Nat.le_of_ble_eq_true rfl⟩) hS (fun q _ h => hFc q h) hFc (fun r1 u t H1 locs ht hvm hw hB hz1 hk1 hS => ?_)
  obtain ⟨hP1, hK1, hD1⟩ := hB
  rw [ht] at hP1
  obtain ⟨hP, hD⟩ := va_join (wr := [(m_x, .inr (11, [.int 0, .ref m_q1, .int 0, .int 0, .int 0, .int 0, .int 0, .int 0, .int 0, .int 0, .int 0, .int 0, .long 0, .int 0, .ref m_q3, .ref m_q5, .ref m_q7, .ref m_q9, .ref m_q11, .ref m_q13, .ref m_q15, .ref m_q17, .ref m_q19, .int 0, .int 0, .int 0, .int 0, .int (-1), .int (-1), .long 0, .long 0, .ref m_q21, .ref m_q23, .int 0, .int (-1), .int 0, .ref m_q25, .int 0, .ref m_q27, .ref m_q29, .int 0, .int 0, .ref m_q31, .int 0, .int 0, .int 0, .int 0]))]) (w1 := []) hP hD [0] [1] rfl rfl (by decide) (by decide) hk1 hFc hP1 hD1
  generalize H1 = H at hP hS ⊢
  clear hPc hDc hKc hFc hP1 hD1 hK1 hk1 hz1
  have hP : va_P (dC, dI) vwCl [(m_x, .inr (11, [.int 0, .ref m_q1, .int 0, .int 0, .int 0, .int 0, .int 0, .int 0, .int 0, .int 0, .int 0, .int 0, .long 0, .int 0, .ref m_q3, .ref m_q5, .ref m_q7, .ref m_q9, .ref m_q11, .ref m_q13, .ref m_q15, .ref m_q17, .ref m_q19, .int 0, .int 0, .int 0, .int 0, .int (-1), .int (-1), .long 0, .long 0, .ref m_q21, .ref m_q23, .int 0, .int (-1), .int 0, .ref m_q25, .int 0, .ref m_q27, .ref m_q29, .int 0, .int 0, .ref m_q31, .int 0, .int 0, .int 0, .int 0]))] H := hP
  have hD : va_D A [(m_x, .inr (11, [.int 0, .ref m_q1, .int 0, .int 0, .int 0, .int 0, .int 0, .int 0, .int 0, .int 0, .int 0, .int 0, .long 0, .int 0, .ref m_q3, .ref m_q5, .ref m_q7, .ref m_q9, .ref m_q11, .ref m_q13, .ref m_q15, .ref m_q17, .ref m_q19, .int 0, .int 0, .int 0, .int 0, .int (-1), .int (-1), .long 0, .long 0, .ref m_q21, .ref m_q23, .int 0, .int (-1), .int 0, .ref m_q25, .int 0, .ref m_q27, .ref m_q29, .int 0, .int 0, .ref m_q31, .int 0, .int 0, .int 0, .int 0]))] := hD
  refine zz_top (v := 0) hw ?_
  refine lv_aload_n hx hb dL_law_331 rfl (lv_at hl 2 rfl) ?_
  have hPc := hP.sub (ws' := [(m_x, .inr (11, [.int 0, .ref m_q1, .int 0, .int 0, .int 0, .int 0, .int 0, .int 0, .int 0, .int 0, .int 0, .int 0, .long 0, .int 0, .ref m_q3, .ref m_q5, .ref m_q7, .ref m_q9, .ref m_q11, .ref m_q13, .ref m_q15, .ref m_q17, .ref m_q19, .int 0, .int 0, .int 0, .int 0, .int (-1), .int (-1), .long 0, .long 0, .ref m_q21, .ref m_q23, .int 0, .int (-1), .int 0, .ref m_q25, .int 0, .ref m_q27, .ref m_q29, .int 0, .int 0, .ref m_q31, .int 0, .int 0, .int 0, .int 0]))]) [0] rfl
  have hDc := hD.sub (ws' := [(m_x, .inr (11, [.int 0, .ref m_q1, .int 0, .int 0, .int 0, .int 0, .int 0, .int 0, .int 0, .int 0, .int 0, .int 0, .long 0, .int 0, .ref m_q3, .ref m_q5, .ref m_q7, .ref m_q9, .ref m_q11, .ref m_q13, .ref m_q15, .ref m_q17, .ref m_q19, .int 0, .int 0, .int 0, .int 0, .int (-1), .int (-1), .long 0, .long 0, .ref m_q21, .ref m_q23, .int 0, .int (-1), .int 0, .ref m_q25, .int 0, .ref m_q27, .ref m_q29, .int 0, .int 0, .ref m_q31, .int 0, .int 0, .int 0, .int 0]))]) [0] (by decide) rfl
  have hKc := hK.sub (tys' := []) [] rfl
  have hFc := va_free (wc := [(m_x, .inr (11, [.int 0, .ref m_q1, .int 0, .int 0, .int 0, .int 0, .int 0, .int 0, .int 0, .int 0, .int 0, .int 0, .long 0, .int 0, .ref m_q3, .ref m_q5, .ref m_q7, .ref m_q9, .ref m_q11, .ref m_q13, .ref m_q15, .ref m_q17, .ref m_q19, .int 0, .int 0, .int 0, .int 0, .int (-1), .int (-1), .long 0, .long 0, .ref m_q21, .ref m_q23, .int 0, .int (-1), .int 0, .ref m_q25, .int 0, .ref m_q27, .ref m_q29, .int 0, .int 0, .ref m_q31, .int 0, .int 0, .int 0, .int 0]))]) hD hS hA [0] rfl
  refine va_calli (va_runV (As := []) (rest := [.int 0]) ⟨hx, hb, hml, hown, hts⟩ (k_X12_fault l dC dI ad m_x m_q1 m_q3 m_q5 m_q7 m_q9 m_q11 m_q13 m_q15 m_q17 m_q19 m_q21 m_q23 m_q25 m_q27 m_q29 m_q31 H.size) (cwV 0 hts gT_X12_fault_44 rfl rfl rfl (by decide +kernel) ⟨Nat.le_of_ble_eq_true rfl, Nat.le_of_ble_eq_true rfl⟩) ⟨fun a U g mk q => ⟨q.1, CP.blind q.2⟩, va_recv hKc hPc (ci := 11) (q0 := 0) rfl rfl, fun U hU hW => ⟨rfl, CP.of hPc hKc hDc hE hS hFc hU hW⟩⟩ rfl rfl hl.1 rfl (lv_room (Nat.le_of_ble_eq_true rfl)) dL_law_332 ⟨Nat.le_of_ble_eq_true rfl, Nat.le_of_ble_eq_true rfl⟩) hS (fun q _ h => hFc q h) hFc (fun r2 u t H1 locs ht hvm hw hB hz1 hk1 hS => ?_)
  obtain ⟨hP1, hK1, hD1⟩ := hB
  rw [ht] at hP1
  obtain ⟨hP, hD⟩ := va_join (wr := []) (w1 := []) hP hD [0] [] rfl rfl (by decide) (by decide) hk1 hFc hP1 hD1
  generalize H1 = H at hP hS ⊢
  clear hPc hDc hKc hFc hP1 hD1 hK1 hk1 hz1
  have hP : va_P (dC, dI) vwCl [] H := hP
  have hD : va_D A [] := hD
  refine zz_top (v := 0) hw ?_
  refine lv_icmp_eq (tgt := 1476) hx hb dL_law_335 (by decide) (fun _ => ?_) (fun c3 => absurd (by decide) c3)
  exact law_end l C0 hA2 hbA hS hl (Nat.le_of_ble_eq_true rfl) (Nat.le_of_ble_eq_true rfl)
set_option maxHeartbeats 4000000 in
set_option maxRecDepth 100000 in
theorem lawc_person {p : Program} {e : Env} {s : State} {m : MethodId} {below : List Frame} {meth : Method} {c : Code} (l : Launch) {b : Nat} {xs : Nat → Int32} (C0 : lw_At p s m meth c b 6 xs) (dC : Nat → ClassId) (dI : Nat → Nat → Nat) (ad : Nat → Nat) (A : Nat → Prop) (hA : ∀ q : Nat, s.heap.size ≤ q → A q) (hA2 : ∀ q : Nat, A q → s.heap.size ≤ q) (hbA : ¬ A b) (x_x m_x o_q x_q1 x_q4 x_q10 x_q16 x_q17 x_q23 x_q27 x_q31 x_q32 x_q49 x_q51 x_q53 x_q78 x_q89 x_q96 x_q5 x_q6 x_q7 x_q8 x_q9 m_q1 m_q3 m_q5 m_q7 m_q9 m_q11 m_q13 m_q15 m_q17 m_q19 m_q21 m_q23 m_q25 m_q27 m_q29 m_q31 : Nat) (m_y4 : ClassId) (H : Heap) (locs : List Loc) (ls : Array Slot) (hK : va_K (dC, dI) vwCl [(m_y4, .int)] s) (hP : va_P (dC, dI) vwCl [(x_x, .inr (10, [.ref x_q1, .ref x_q4, .ref x_q10, .ref x_q16, .ref x_q17, .ref x_q23, .ref x_q27, .ref x_q31, .ref x_q32, .ref x_q49, .ref x_q51, .ref x_q53, .ref x_q78, .ref x_q89, .ref x_q96, .int (-1), .int 0, .int (-1), .int (-1)])), (x_q4, .inr (5, [.ref x_q5, .ref x_q6, .ref x_q7, .ref x_q8, .ref x_q9, .int 0, .int 0, .int 0, .int 2, .int 0, .int 0, .int 0])), (m_x, .inr (11, [.int 0, .ref m_q1, .int 0, .int 0, .int 0, .int 0, .int 0, .int 0, .int 0, .int 0, .int 0, .int 0, .long 0, .int 0, .ref m_q3, .ref m_q5, .ref m_q7, .ref m_q9, .ref m_q11, .ref m_q13, .ref m_q15, .ref m_q17, .ref m_q19, .int 0, .int 0, .int 0, .int 0, .int (-1), .int (-1), .long 0, .long 0, .ref m_q21, .ref m_q23, .int 0, .int (-1), .int 0, .ref m_q25, .int 0, .ref m_q27, .ref m_q29, .int 0, .int 0, .ref m_q31, .int 0, .int 0, .int 0, .int 0])), (m_q3, .inl (m_y4, 373, .inl (upd (upd (fun _ => 0) 60 2) 62 2)))] H) (hD : va_D A [(x_x, .inr (10, [.ref x_q1, .ref x_q4, .ref x_q10, .ref x_q16, .ref x_q17, .ref x_q23, .ref x_q27, .ref x_q31, .ref x_q32, .ref x_q49, .ref x_q51, .ref x_q53, .ref x_q78, .ref x_q89, .ref x_q96, .int (-1), .int 0, .int (-1), .int (-1)])), (x_q4, .inr (5, [.ref x_q5, .ref x_q6, .ref x_q7, .ref x_q8, .ref x_q9, .int 0, .int 0, .int 0, .int 2, .int 0, .int 0, .int 0])), (m_x, .inr (11, [.int 0, .ref m_q1, .int 0, .int 0, .int 0, .int 0, .int 0, .int 0, .int 0, .int 0, .int 0, .int 0, .long 0, .int 0, .ref m_q3, .ref m_q5, .ref m_q7, .ref m_q9, .ref m_q11, .ref m_q13, .ref m_q15, .ref m_q17, .ref m_q19, .int 0, .int 0, .int 0, .int 0, .int (-1), .int (-1), .long 0, .long 0, .ref m_q21, .ref m_q23, .int 0, .int (-1), .int 0, .ref m_q25, .int 0, .ref m_q27, .ref m_q29, .int 0, .int 0, .ref m_q31, .int 0, .int 0, .int 0, .int 0])), (m_q3, .inl (m_y4, 373, .inl (upd (upd (fun _ => 0) 60 2) 62 2)))]) (hS : va_S A s.heap H locs) (hE : EV ad A s s.heap) (hst : l.stackTraces = false) (hEX : EX A s s.heap) (hl : lv_has ls 8 [(4, .int 0), (3, .ref o_q), (2, .ref m_x), (1, .ref x_x), (0, .ref b)]) : W p l e room_1 s m #[Value.ref b] below meth c H locs 314 7149 (lw_Z below #[Value.ref b] s) (F0 m 340 ls []) := by
  obtain ⟨hx, hb, hr, hml, hown, hts0, hX, hbl, hlocks, hgv⟩ := id C0
  have hts : ∀ w ∈ lw_tbl, w.before #[Value.ref b] s = true := hts0
  obtain ⟨a1, x1⟩ : ∃ y : Int32, xs 1 = y := ⟨_, rfl⟩
  obtain ⟨a2, x2⟩ : ∃ y : Int32, xs 2 = y := ⟨_, rfl⟩
  refine lv_aload_n hx hb dL_law_340 rfl (lv_at hl 3 rfl) ?_
  refine lv_aload_n hx hb dL_law_341 rfl (lv_at hl 4 rfl) ?_
  refine lv_iload hx hb dL_law_342 (lv_at hl 0 rfl) ?_
  refine lv_iconst (v := 1) hx hb dL_law_344 (by decide) ?_
  refine lv_iadd hx hb dL_law_345 ?_
  refine zz_top (v := 1) (by decide) ?_
  refine va_sld hx hb hX hbl hbA hS (i := 1) (zz_in (by decide)) dL_law_346 ?_
  refine zz_top (v := a1) (x1) ?_
  refine lv_aload_n hx hb dL_law_347 rfl (lv_at hl 4 rfl) ?_
  refine lv_iload hx hb dL_law_348 (lv_at hl 0 rfl) ?_
  refine lv_iconst (v := 2) hx hb dL_law_350 (by decide) ?_
  refine lv_iadd hx hb dL_law_351 ?_
  refine zz_top (v := 2) (by decide) ?_
  refine va_sld hx hb hX hbl hbA hS (i := 2) (zz_in (by decide)) dL_law_352 ?_
  refine zz_top (v := a2) (x2) ?_
  refine lv_aload_n hx hb dL_law_353 rfl (lv_at hl 1 rfl) ?_
  have hPc := hP.sub (ws' := [(x_x, .inr (10, [.ref x_q1, .ref x_q4, .ref x_q10, .ref x_q16, .ref x_q17, .ref x_q23, .ref x_q27, .ref x_q31, .ref x_q32, .ref x_q49, .ref x_q51, .ref x_q53, .ref x_q78, .ref x_q89, .ref x_q96, .int (-1), .int 0, .int (-1), .int (-1)])), (x_q4, .inr (5, [.ref x_q5, .ref x_q6, .ref x_q7, .ref x_q8, .ref x_q9, .int 0, .int 0, .int 0, .int 2, .int 0, .int 0, .int 0]))]) [0, 1] rfl
  have hDc := hD.sub (ws' := [(x_x, .inr (10, [.ref x_q1, .ref x_q4, .ref x_q10, .ref x_q16, .ref x_q17, .ref x_q23, .ref x_q27, .ref x_q31, .ref x_q32, .ref x_q49, .ref x_q51, .ref x_q53, .ref x_q78, .ref x_q89, .ref x_q96, .int (-1), .int 0, .int (-1), .int (-1)])), (x_q4, .inr (5, [.ref x_q5, .ref x_q6, .ref x_q7, .ref x_q8, .ref x_q9, .int 0, .int 0, .int 0, .int 2, .int 0, .int 0, .int 0]))]) [0, 1] (by decide) rfl
  have hKc := hK.sub (tys' := []) [] rfl
  have hFc := va_free (wc := [(x_x, .inr (10, [.ref x_q1, .ref x_q4, .ref x_q10, .ref x_q16, .ref x_q17, .ref x_q23, .ref x_q27, .ref x_q31, .ref x_q32, .ref x_q49, .ref x_q51, .ref x_q53, .ref x_q78, .ref x_q89, .ref x_q96, .int (-1), .int 0, .int (-1), .int (-1)])), (x_q4, .inr (5, [.ref x_q5, .ref x_q6, .ref x_q7, .ref x_q8, .ref x_q9, .int 0, .int 0, .int 0, .int 2, .int 0, .int 0, .int 0]))]) hD hS hA [0, 1] rfl
  refine va_calli (vx_runSW (As := [.ref x_x, .int a1, .int a2, .ref o_q]) (rest := []) ⟨hx, hb, hml, hown, hts⟩ (kl_L_person l hst dC dI ad x_x x_q1 x_q4 x_q10 x_q16 x_q17 x_q23 x_q27 x_q31 x_q32 x_q49 x_q51 x_q53 x_q78 x_q89 x_q96 x_q5 x_q6 x_q7 x_q8 x_q9 o_q a1 a2 H.size) (vx_cwSW 4 hts gT_L_person_45 rfl rfl rfl (by decide +kernel) ⟨Nat.le_of_ble_eq_true rfl, Nat.le_of_ble_eq_true rfl⟩) ⟨fun a U g mk q => ⟨q.1, CP.blind q.2.1, EX.blind q.2.2⟩, fun U hU hW => ⟨rfl, CP.of hPc hKc hDc hE hS hFc hU hW, EX.call hEX hS hFc hU hW⟩⟩ rfl rfl hl.1 rfl (lv_room (Nat.le_of_ble_eq_true rfl)) dL_law_354 ⟨Nat.le_of_ble_eq_true rfl, Nat.le_of_ble_eq_true rfl⟩) hS (fun q _ h => hFc q h) hFc (fun r1 u t H1 locs ht hvm hw hB hz1 hk1 hS => ?_)
  obtain ⟨hP1, hK1, hD1⟩ := hB
  rw [ht] at hP1
  obtain ⟨hP, hD⟩ := va_join (wr := [(m_x, .inr (11, [.int 0, .ref m_q1, .int 0, .int 0, .int 0, .int 0, .int 0, .int 0, .int 0, .int 0, .int 0, .int 0, .long 0, .int 0, .ref m_q3, .ref m_q5, .ref m_q7, .ref m_q9, .ref m_q11, .ref m_q13, .ref m_q15, .ref m_q17, .ref m_q19, .int 0, .int 0, .int 0, .int 0, .int (-1), .int (-1), .long 0, .long 0, .ref m_q21, .ref m_q23, .int 0, .int (-1), .int 0, .ref m_q25, .int 0, .ref m_q27, .ref m_q29, .int 0, .int 0, .ref m_q31, .int 0, .int 0, .int 0, .int 0])), (m_q3, .inl (m_y4, 373, .inl (upd (upd (fun _ => 0) 60 2) 62 2)))]) (w1 := []) hP hD [0, 1] [2, 3] rfl rfl (by decide) (by decide) hk1 hFc hP1 hD1
  generalize H1 = H at hP hS ⊢
  clear hPc hDc hKc hFc hP1 hD1 hK1 hk1 hz1
  have hP : va_P (dC, dI) vwCl [(m_x, .inr (11, [.int 0, .ref m_q1, .int 0, .int 0, .int 0, .int 0, .int 0, .int 0, .int 0, .int 0, .int 0, .int 0, .long 0, .int 0, .ref m_q3, .ref m_q5, .ref m_q7, .ref m_q9, .ref m_q11, .ref m_q13, .ref m_q15, .ref m_q17, .ref m_q19, .int 0, .int 0, .int 0, .int 0, .int (-1), .int (-1), .long 0, .long 0, .ref m_q21, .ref m_q23, .int 0, .int (-1), .int 0, .ref m_q25, .int 0, .ref m_q27, .ref m_q29, .int 0, .int 0, .ref m_q31, .int 0, .int 0, .int 0, .int 0])), (m_q3, .inl (m_y4, 373, .inl (upd (upd (fun _ => 0) 60 2) 62 2)))] H := hP
  have hD : va_D A [(m_x, .inr (11, [.int 0, .ref m_q1, .int 0, .int 0, .int 0, .int 0, .int 0, .int 0, .int 0, .int 0, .int 0, .int 0, .long 0, .int 0, .ref m_q3, .ref m_q5, .ref m_q7, .ref m_q9, .ref m_q11, .ref m_q13, .ref m_q15, .ref m_q17, .ref m_q19, .int 0, .int 0, .int 0, .int 0, .int (-1), .int (-1), .long 0, .long 0, .ref m_q21, .ref m_q23, .int 0, .int (-1), .int 0, .ref m_q25, .int 0, .ref m_q27, .ref m_q29, .int 0, .int 0, .ref m_q31, .int 0, .int 0, .int 0, .int 0])), (m_q3, .inl (m_y4, 373, .inl (upd (upd (fun _ => 0) 60 2) 62 2)))] := hD
  refine W.widen (k := 315) (n := 7155) (Nat.le_of_ble_eq_true rfl) (Nat.le_of_ble_eq_true rfl) ?_
  refine zz_top (v := 1) hw ?_
  refine lv_istore (lv' := [(5, .int 1), (4, .int 0), (3, .ref o_q), (2, .ref m_x), (1, .ref x_x), (0, .ref b)]) hx hb dL_law_357 hl (by decide) rfl (fun ls hl => ?_)
  refine lv_aload_n hx hb dL_law_359 rfl (lv_at hl 3 rfl) ?_
  refine lv_aload_n hx hb dL_law_360 rfl (lv_at hl 5 rfl) ?_
  refine lv_iload hx hb dL_law_361 (lv_at hl 1 rfl) ?_
  refine lv_iconst (v := 1) hx hb dL_law_363 (by decide) ?_
  refine lv_iadd hx hb dL_law_364 ?_
  refine zz_top (v := 1) (by decide) ?_
  refine va_sld hx hb hX hbl hbA hS (i := 1) (zz_in (by decide)) dL_law_365 ?_
  refine zz_top (v := a1) (x1) ?_
  refine lv_aload_n hx hb dL_law_366 rfl (lv_at hl 5 rfl) ?_
  refine lv_iload hx hb dL_law_367 (lv_at hl 1 rfl) ?_
  refine lv_iconst (v := 2) hx hb dL_law_369 (by decide) ?_
  refine lv_iadd hx hb dL_law_370 ?_
  refine zz_top (v := 2) (by decide) ?_
  refine va_sld hx hb hX hbl hbA hS (i := 2) (zz_in (by decide)) dL_law_371 ?_
  refine zz_top (v := a2) (x2) ?_
  have hPc := hP.sub (ws' := [(m_x, .inr (11, [.int 0, .ref m_q1, .int 0, .int 0, .int 0, .int 0, .int 0, .int 0, .int 0, .int 0, .int 0, .int 0, .long 0, .int 0, .ref m_q3, .ref m_q5, .ref m_q7, .ref m_q9, .ref m_q11, .ref m_q13, .ref m_q15, .ref m_q17, .ref m_q19, .int 0, .int 0, .int 0, .int 0, .int (-1), .int (-1), .long 0, .long 0, .ref m_q21, .ref m_q23, .int 0, .int (-1), .int 0, .ref m_q25, .int 0, .ref m_q27, .ref m_q29, .int 0, .int 0, .ref m_q31, .int 0, .int 0, .int 0, .int 0])), (m_q3, .inl (m_y4, 373, .inl (upd (upd (fun _ => 0) 60 2) 62 2)))]) [0, 1] rfl
  have hDc := hD.sub (ws' := [(m_x, .inr (11, [.int 0, .ref m_q1, .int 0, .int 0, .int 0, .int 0, .int 0, .int 0, .int 0, .int 0, .int 0, .int 0, .long 0, .int 0, .ref m_q3, .ref m_q5, .ref m_q7, .ref m_q9, .ref m_q11, .ref m_q13, .ref m_q15, .ref m_q17, .ref m_q19, .int 0, .int 0, .int 0, .int 0, .int (-1), .int (-1), .long 0, .long 0, .ref m_q21, .ref m_q23, .int 0, .int (-1), .int 0, .ref m_q25, .int 0, .ref m_q27, .ref m_q29, .int 0, .int 0, .ref m_q31, .int 0, .int 0, .int 0, .int 0])), (m_q3, .inl (m_y4, 373, .inl (upd (upd (fun _ => 0) 60 2) 62 2)))]) [0, 1] (by decide) rfl
  have hKc := hK.sub (tys' := [(m_y4, .int)]) [0] rfl
  have hFc := va_free (wc := [(m_x, .inr (11, [.int 0, .ref m_q1, .int 0, .int 0, .int 0, .int 0, .int 0, .int 0, .int 0, .int 0, .int 0, .int 0, .long 0, .int 0, .ref m_q3, .ref m_q5, .ref m_q7, .ref m_q9, .ref m_q11, .ref m_q13, .ref m_q15, .ref m_q17, .ref m_q19, .int 0, .int 0, .int 0, .int 0, .int (-1), .int (-1), .long 0, .long 0, .ref m_q21, .ref m_q23, .int 0, .int (-1), .int 0, .ref m_q25, .int 0, .ref m_q27, .ref m_q29, .int 0, .int 0, .ref m_q31, .int 0, .int 0, .int 0, .int 0])), (m_q3, .inl (m_y4, 373, .inl (upd (upd (fun _ => 0) 60 2) 62 2)))]) hD hS hA [0, 1] rfl
  refine va_calli (va_runV (As := [.int a1, .int a2]) (rest := []) ⟨hx, hb, hml, hown, hts⟩ (k_X12_person l dC dI ad m_x m_q1 m_q3 m_q5 m_q7 m_q9 m_q11 m_q13 m_q15 m_q17 m_q19 m_q21 m_q23 m_q25 m_q27 m_q29 m_q31 a1 a2 m_y4 H.size) (cwV 2 hts gT_X12_person_50 rfl rfl rfl (by decide +kernel) ⟨Nat.le_of_ble_eq_true rfl, Nat.le_of_ble_eq_true rfl⟩) ⟨fun a U g mk q => ⟨q.1, CP.blind q.2⟩, va_recv hKc hPc (ci := 11) (q0 := 0) rfl rfl, fun U hU hW => ⟨rfl, CP.of hPc hKc hDc hE hS hFc hU hW⟩⟩ rfl rfl hl.1 rfl (lv_room (Nat.le_of_ble_eq_true rfl)) dL_law_372 ⟨Nat.le_of_ble_eq_true rfl, Nat.le_of_ble_eq_true rfl⟩) hS (fun q _ h => hFc q h) hFc (fun r2 u t H1 locs ht hvm hw hB hz1 hk1 hS => ?_)
  obtain ⟨hP1, hK1, hD1⟩ := hB
  rw [ht] at hP1
  obtain ⟨hP, hD⟩ := va_join (wr := []) (w1 := [(m_q3, .inl (m_y4, 373, .inl (upd (upd (fun _ => 0) 60 2) 62 2))), (m_x, .inr (11, [.int 1, .ref m_q1, .int 0, .int 0, .int 0, .int 0, .int 0, .int 0, .int 0, .int 0, .int 0, .int 0, .long 0, .int 0, .ref m_q3, .ref m_q5, .ref m_q7, .ref m_q9, .ref m_q11, .ref m_q13, .ref m_q15, .ref m_q17, .ref m_q19, .int 0, .int 0, .int 0, .int 0, .int (-1), .int (-1), .long 0, .long 0, .ref m_q21, .ref m_q23, .int 0, .int (-1), .int 0, .ref m_q25, .int 0, .ref m_q27, .ref m_q29, .int 0, .int 0, .ref m_q31, .int 0, .int 0, .int 0, .int 0]))]) hP hD [0, 1] [] rfl rfl (by decide) (by decide) hk1 hFc hP1 hD1
  generalize H1 = H at hP hS ⊢
  clear hPc hDc hKc hFc hP1 hD1 hK1 hk1 hz1
  have hP : va_P (dC, dI) vwCl [(m_q3, .inl (m_y4, 373, .inl (upd (upd (fun _ => 0) 60 2) 62 2))), (m_x, .inr (11, [.int 1, .ref m_q1, .int 0, .int 0, .int 0, .int 0, .int 0, .int 0, .int 0, .int 0, .int 0, .int 0, .long 0, .int 0, .ref m_q3, .ref m_q5, .ref m_q7, .ref m_q9, .ref m_q11, .ref m_q13, .ref m_q15, .ref m_q17, .ref m_q19, .int 0, .int 0, .int 0, .int 0, .int (-1), .int (-1), .long 0, .long 0, .ref m_q21, .ref m_q23, .int 0, .int (-1), .int 0, .ref m_q25, .int 0, .ref m_q27, .ref m_q29, .int 0, .int 0, .ref m_q31, .int 0, .int 0, .int 0, .int 0]))] H := hP
  have hD : va_D A [(m_q3, .inl (m_y4, 373, .inl (upd (upd (fun _ => 0) 60 2) 62 2))), (m_x, .inr (11, [.int 1, .ref m_q1, .int 0, .int 0, .int 0, .int 0, .int 0, .int 0, .int 0, .int 0, .int 0, .int 0, .long 0, .int 0, .ref m_q3, .ref m_q5, .ref m_q7, .ref m_q9, .ref m_q11, .ref m_q13, .ref m_q15, .ref m_q17, .ref m_q19, .int 0, .int 0, .int 0, .int 0, .int (-1), .int (-1), .long 0, .long 0, .ref m_q21, .ref m_q23, .int 0, .int (-1), .int 0, .ref m_q25, .int 0, .ref m_q27, .ref m_q29, .int 0, .int 0, .ref m_q31, .int 0, .int 0, .int 0, .int 0]))] := hD
  refine zz_top (v := 0) hw ?_
  refine lv_istore (lv' := [(6, .int 0), (5, .int 1), (4, .int 0), (3, .ref o_q), (2, .ref m_x), (1, .ref x_x), (0, .ref b)]) hx hb dL_law_375 hl (by decide) rfl (fun ls hl => ?_)
  refine lv_aload_n hx hb dL_law_377 rfl (lv_at hl 4 rfl) ?_
  have hPc := hP.sub (ws' := [(m_x, .inr (11, [.int 1, .ref m_q1, .int 0, .int 0, .int 0, .int 0, .int 0, .int 0, .int 0, .int 0, .int 0, .int 0, .long 0, .int 0, .ref m_q3, .ref m_q5, .ref m_q7, .ref m_q9, .ref m_q11, .ref m_q13, .ref m_q15, .ref m_q17, .ref m_q19, .int 0, .int 0, .int 0, .int 0, .int (-1), .int (-1), .long 0, .long 0, .ref m_q21, .ref m_q23, .int 0, .int (-1), .int 0, .ref m_q25, .int 0, .ref m_q27, .ref m_q29, .int 0, .int 0, .ref m_q31, .int 0, .int 0, .int 0, .int 0]))]) [1] rfl
  have hDc := hD.sub (ws' := [(m_x, .inr (11, [.int 1, .ref m_q1, .int 0, .int 0, .int 0, .int 0, .int 0, .int 0, .int 0, .int 0, .int 0, .int 0, .long 0, .int 0, .ref m_q3, .ref m_q5, .ref m_q7, .ref m_q9, .ref m_q11, .ref m_q13, .ref m_q15, .ref m_q17, .ref m_q19, .int 0, .int 0, .int 0, .int 0, .int (-1), .int (-1), .long 0, .long 0, .ref m_q21, .ref m_q23, .int 0, .int (-1), .int 0, .ref m_q25, .int 0, .ref m_q27, .ref m_q29, .int 0, .int 0, .ref m_q31, .int 0, .int 0, .int 0, .int 0]))]) [1] (by decide) rfl
  have hKc := hK.sub (tys' := []) [] rfl
  have hFc := va_free (wc := [(m_x, .inr (11, [.int 1, .ref m_q1, .int 0, .int 0, .int 0, .int 0, .int 0, .int 0, .int 0, .int 0, .int 0, .int 0, .long 0, .int 0, .ref m_q3, .ref m_q5, .ref m_q7, .ref m_q9, .ref m_q11, .ref m_q13, .ref m_q15, .ref m_q17, .ref m_q19, .int 0, .int 0, .int 0, .int 0, .int (-1), .int (-1), .long 0, .long 0, .ref m_q21, .ref m_q23, .int 0, .int (-1), .int 0, .ref m_q25, .int 0, .ref m_q27, .ref m_q29, .int 0, .int 0, .ref m_q31, .int 0, .int 0, .int 0, .int 0]))]) hD hS hA [1] rfl
  refine va_calli (va_runV (As := []) (rest := []) ⟨hx, hb, hml, hown, hts⟩ (k_X12_thrown l dC dI ad m_x m_q1 m_q3 m_q5 m_q7 m_q9 m_q11 m_q13 m_q15 m_q17 m_q19 m_q21 m_q23 m_q25 m_q27 m_q29 m_q31 H.size) (cwV 0 hts gT_X12_thrown_51 rfl rfl rfl (by decide +kernel) ⟨Nat.le_of_ble_eq_true rfl, Nat.le_of_ble_eq_true rfl⟩) ⟨fun a U g mk q => ⟨q.1, CP.blind q.2⟩, va_recv hKc hPc (ci := 11) (q0 := 0) rfl rfl, fun U hU hW => ⟨rfl, CP.of hPc hKc hDc hE hS hFc hU hW⟩⟩ rfl rfl hl.1 rfl (lv_room (Nat.le_of_ble_eq_true rfl)) dL_law_378 ⟨Nat.le_of_ble_eq_true rfl, Nat.le_of_ble_eq_true rfl⟩) hS (fun q _ h => hFc q h) hFc (fun r3 u t H1 locs ht hvm hw hB hz1 hk1 hS => ?_)
  obtain ⟨hP1, hK1, hD1⟩ := hB
  rw [ht] at hP1
  obtain ⟨hP, hD⟩ := va_join (wr := [(m_q3, .inl (m_y4, 373, .inl (upd (upd (fun _ => 0) 60 2) 62 2)))]) (w1 := [(m_x, .inr (11, [.int 1, .ref m_q1, .int 0, .int 0, .int 0, .int 0, .int 0, .int 0, .int 0, .int 0, .int 0, .int 0, .long 0, .int 0, .ref m_q3, .ref m_q5, .ref m_q7, .ref m_q9, .ref m_q11, .ref m_q13, .ref m_q15, .ref m_q17, .ref m_q19, .int 0, .int 0, .int 0, .int 0, .int (-1), .int (-1), .long 0, .long 0, .ref m_q21, .ref m_q23, .int 0, .int (-1), .int 0, .ref m_q25, .int 0, .ref m_q27, .ref m_q29, .int 0, .int 0, .ref m_q31, .int 0, .int 0, .int 0, .int 0]))]) hP hD [1] [0] rfl rfl (by decide) (by decide) hk1 hFc hP1 hD1
  generalize H1 = H at hP hS ⊢
  clear hPc hDc hKc hFc hP1 hD1 hK1 hk1 hz1
  have hP : va_P (dC, dI) vwCl [(m_q3, .inl (m_y4, 373, .inl (upd (upd (fun _ => 0) 60 2) 62 2))), (m_x, .inr (11, [.int 1, .ref m_q1, .int 0, .int 0, .int 0, .int 0, .int 0, .int 0, .int 0, .int 0, .int 0, .int 0, .long 0, .int 0, .ref m_q3, .ref m_q5, .ref m_q7, .ref m_q9, .ref m_q11, .ref m_q13, .ref m_q15, .ref m_q17, .ref m_q19, .int 0, .int 0, .int 0, .int 0, .int (-1), .int (-1), .long 0, .long 0, .ref m_q21, .ref m_q23, .int 0, .int (-1), .int 0, .ref m_q25, .int 0, .ref m_q27, .ref m_q29, .int 0, .int 0, .ref m_q31, .int 0, .int 0, .int 0, .int 0]))] H := hP
  have hD : va_D A [(m_q3, .inl (m_y4, 373, .inl (upd (upd (fun _ => 0) 60 2) 62 2))), (m_x, .inr (11, [.int 1, .ref m_q1, .int 0, .int 0, .int 0, .int 0, .int 0, .int 0, .int 0, .int 0, .int 0, .int 0, .long 0, .int 0, .ref m_q3, .ref m_q5, .ref m_q7, .ref m_q9, .ref m_q11, .ref m_q13, .ref m_q15, .ref m_q17, .ref m_q19, .int 0, .int 0, .int 0, .int 0, .int (-1), .int (-1), .long 0, .long 0, .ref m_q21, .ref m_q23, .int 0, .int (-1), .int 0, .ref m_q25, .int 0, .ref m_q27, .ref m_q29, .int 0, .int 0, .ref m_q31, .int 0, .int 0, .int 0, .int 0]))] := hD
  refine zz_top (v := 1) hw ?_
  refine lv_iload hx hb dL_law_381 (lv_at hl 1 rfl) ?_
  refine lv_icmp_eq (tgt := 388) hx hb dL_law_383 (by decide) (fun _ => ?_) (fun c4 => absurd (by decide) c4)
  refine lv_iload hx hb dL_law_388 (lv_at hl 1 rfl) ?_
  refine lv_if_ne (tgt := 405) hx hb dL_law_390 (by decide) (fun _ => ?_) (fun c5 => absurd c5 (by decide))
  refine lv_goto (tgt := 1476) hx hb dL_law_405 (by decide) ?_
  exact law_end l C0 hA2 hbA hS (lv_sub hl [2, 3, 4, 5, 6] rfl) (Nat.le_of_ble_eq_true rfl) (Nat.le_of_ble_eq_true rfl)
set_option maxHeartbeats 4000000 in
set_option maxRecDepth 100000 in
theorem lawc_dog {p : Program} {e : Env} {s : State} {m : MethodId} {below : List Frame} {meth : Method} {c : Code} (l : Launch) {b : Nat} {xs : Nat → Int32} (C0 : lw_At p s m meth c b 6 xs) (dC : Nat → ClassId) (dI : Nat → Nat → Nat) (ad : Nat → Nat) (A : Nat → Prop) (hA : ∀ q : Nat, s.heap.size ≤ q → A q) (hA2 : ∀ q : Nat, A q → s.heap.size ≤ q) (hbA : ¬ A b) (x_x m_x o_q x_q1 x_q4 x_q10 x_q16 x_q17 x_q23 x_q27 x_q31 x_q32 x_q49 x_q51 x_q53 x_q78 x_q89 x_q96 x_q5 x_q6 x_q7 x_q8 x_q9 m_q1 m_q3 m_q5 m_q7 m_q9 m_q11 m_q13 m_q15 m_q17 m_q19 m_q21 m_q23 m_q25 m_q27 m_q29 m_q31 : Nat) (m_y4 : ClassId) (H : Heap) (locs : List Loc) (ls : Array Slot) (hK : va_K (dC, dI) vwCl [(m_y4, .int)] s) (hP : va_P (dC, dI) vwCl [(x_x, .inr (10, [.ref x_q1, .ref x_q4, .ref x_q10, .ref x_q16, .ref x_q17, .ref x_q23, .ref x_q27, .ref x_q31, .ref x_q32, .ref x_q49, .ref x_q51, .ref x_q53, .ref x_q78, .ref x_q89, .ref x_q96, .int (-1), .int 0, .int (-1), .int (-1)])), (x_q4, .inr (5, [.ref x_q5, .ref x_q6, .ref x_q7, .ref x_q8, .ref x_q9, .int 0, .int 0, .int 0, .int 2, .int 0, .int 0, .int 0])), (m_x, .inr (11, [.int 0, .ref m_q1, .int 0, .int 0, .int 0, .int 0, .int 0, .int 0, .int 0, .int 0, .int 0, .int 0, .long 0, .int 0, .ref m_q3, .ref m_q5, .ref m_q7, .ref m_q9, .ref m_q11, .ref m_q13, .ref m_q15, .ref m_q17, .ref m_q19, .int 0, .int 0, .int 0, .int 0, .int (-1), .int (-1), .long 0, .long 0, .ref m_q21, .ref m_q23, .int 0, .int (-1), .int 0, .ref m_q25, .int 0, .ref m_q27, .ref m_q29, .int 0, .int 0, .ref m_q31, .int 0, .int 0, .int 0, .int 0])), (m_q3, .inl (m_y4, 373, .inl (upd (upd (fun _ => 0) 60 2) 62 2)))] H) (hD : va_D A [(x_x, .inr (10, [.ref x_q1, .ref x_q4, .ref x_q10, .ref x_q16, .ref x_q17, .ref x_q23, .ref x_q27, .ref x_q31, .ref x_q32, .ref x_q49, .ref x_q51, .ref x_q53, .ref x_q78, .ref x_q89, .ref x_q96, .int (-1), .int 0, .int (-1), .int (-1)])), (x_q4, .inr (5, [.ref x_q5, .ref x_q6, .ref x_q7, .ref x_q8, .ref x_q9, .int 0, .int 0, .int 0, .int 2, .int 0, .int 0, .int 0])), (m_x, .inr (11, [.int 0, .ref m_q1, .int 0, .int 0, .int 0, .int 0, .int 0, .int 0, .int 0, .int 0, .int 0, .int 0, .long 0, .int 0, .ref m_q3, .ref m_q5, .ref m_q7, .ref m_q9, .ref m_q11, .ref m_q13, .ref m_q15, .ref m_q17, .ref m_q19, .int 0, .int 0, .int 0, .int 0, .int (-1), .int (-1), .long 0, .long 0, .ref m_q21, .ref m_q23, .int 0, .int (-1), .int 0, .ref m_q25, .int 0, .ref m_q27, .ref m_q29, .int 0, .int 0, .ref m_q31, .int 0, .int 0, .int 0, .int 0])), (m_q3, .inl (m_y4, 373, .inl (upd (upd (fun _ => 0) 60 2) 62 2)))]) (hS : va_S A s.heap H locs) (hE : EV ad A s s.heap) (hst : l.stackTraces = false) (hEX : EX A s s.heap) (hl : lv_has ls 8 [(4, .int 0), (3, .ref o_q), (2, .ref m_x), (1, .ref x_x), (0, .ref b)]) : W p l e room_1 s m #[Value.ref b] below meth c H locs 314 7149 (lw_Z below #[Value.ref b] s) (F0 m 408 ls []) := by
  obtain ⟨hx, hb, hr, hml, hown, hts0, hX, hbl, hlocks, hgv⟩ := id C0
  have hts : ∀ w ∈ lw_tbl, w.before #[Value.ref b] s = true := hts0
  obtain ⟨a1, x1⟩ : ∃ y : Int32, xs 1 = y := ⟨_, rfl⟩
  obtain ⟨a2, x2⟩ : ∃ y : Int32, xs 2 = y := ⟨_, rfl⟩
  refine lv_aload_n hx hb dL_law_408 rfl (lv_at hl 3 rfl) ?_
  refine lv_aload_n hx hb dL_law_409 rfl (lv_at hl 4 rfl) ?_
  refine lv_iload hx hb dL_law_410 (lv_at hl 0 rfl) ?_
  refine lv_iconst (v := 1) hx hb dL_law_412 (by decide) ?_
  refine lv_iadd hx hb dL_law_413 ?_
  refine zz_top (v := 1) (by decide) ?_
  refine va_sld hx hb hX hbl hbA hS (i := 1) (zz_in (by decide)) dL_law_414 ?_
  refine zz_top (v := a1) (x1) ?_
  refine lv_aload_n hx hb dL_law_415 rfl (lv_at hl 4 rfl) ?_
  refine lv_iload hx hb dL_law_416 (lv_at hl 0 rfl) ?_
  refine lv_iconst (v := 2) hx hb dL_law_418 (by decide) ?_
  refine lv_iadd hx hb dL_law_419 ?_
  refine zz_top (v := 2) (by decide) ?_
  refine va_sld hx hb hX hbl hbA hS (i := 2) (zz_in (by decide)) dL_law_420 ?_
  refine zz_top (v := a2) (x2) ?_
  refine lv_aload_n hx hb dL_law_421 rfl (lv_at hl 1 rfl) ?_
  have hPc := hP.sub (ws' := [(x_x, .inr (10, [.ref x_q1, .ref x_q4, .ref x_q10, .ref x_q16, .ref x_q17, .ref x_q23, .ref x_q27, .ref x_q31, .ref x_q32, .ref x_q49, .ref x_q51, .ref x_q53, .ref x_q78, .ref x_q89, .ref x_q96, .int (-1), .int 0, .int (-1), .int (-1)])), (x_q4, .inr (5, [.ref x_q5, .ref x_q6, .ref x_q7, .ref x_q8, .ref x_q9, .int 0, .int 0, .int 0, .int 2, .int 0, .int 0, .int 0]))]) [0, 1] rfl
  have hDc := hD.sub (ws' := [(x_x, .inr (10, [.ref x_q1, .ref x_q4, .ref x_q10, .ref x_q16, .ref x_q17, .ref x_q23, .ref x_q27, .ref x_q31, .ref x_q32, .ref x_q49, .ref x_q51, .ref x_q53, .ref x_q78, .ref x_q89, .ref x_q96, .int (-1), .int 0, .int (-1), .int (-1)])), (x_q4, .inr (5, [.ref x_q5, .ref x_q6, .ref x_q7, .ref x_q8, .ref x_q9, .int 0, .int 0, .int 0, .int 2, .int 0, .int 0, .int 0]))]) [0, 1] (by decide) rfl
  have hKc := hK.sub (tys' := []) [] rfl
  have hFc := va_free (wc := [(x_x, .inr (10, [.ref x_q1, .ref x_q4, .ref x_q10, .ref x_q16, .ref x_q17, .ref x_q23, .ref x_q27, .ref x_q31, .ref x_q32, .ref x_q49, .ref x_q51, .ref x_q53, .ref x_q78, .ref x_q89, .ref x_q96, .int (-1), .int 0, .int (-1), .int (-1)])), (x_q4, .inr (5, [.ref x_q5, .ref x_q6, .ref x_q7, .ref x_q8, .ref x_q9, .int 0, .int 0, .int 0, .int 2, .int 0, .int 0, .int 0]))]) hD hS hA [0, 1] rfl
  refine va_calli (vx_runSW (As := [.ref x_x, .int a1, .int a2, .ref o_q]) (rest := []) ⟨hx, hb, hml, hown, hts⟩ (kl_L_dog l hst dC dI ad x_x x_q1 x_q4 x_q10 x_q16 x_q17 x_q23 x_q27 x_q31 x_q32 x_q49 x_q51 x_q53 x_q78 x_q89 x_q96 x_q5 x_q6 x_q7 x_q8 x_q9 o_q a1 a2 H.size) (vx_cwSW 4 hts gT_L_dog_54 rfl rfl rfl (by decide +kernel) ⟨Nat.le_of_ble_eq_true rfl, Nat.le_of_ble_eq_true rfl⟩) ⟨fun a U g mk q => ⟨q.1, CP.blind q.2.1, EX.blind q.2.2⟩, fun U hU hW => ⟨rfl, CP.of hPc hKc hDc hE hS hFc hU hW, EX.call hEX hS hFc hU hW⟩⟩ rfl rfl hl.1 rfl (lv_room (Nat.le_of_ble_eq_true rfl)) dL_law_422 ⟨Nat.le_of_ble_eq_true rfl, Nat.le_of_ble_eq_true rfl⟩) hS (fun q _ h => hFc q h) hFc (fun r1 u t H1 locs ht hvm hw hB hz1 hk1 hS => ?_)
  obtain ⟨hP1, hK1, hD1⟩ := hB
  rw [ht] at hP1
  obtain ⟨hP, hD⟩ := va_join (wr := [(m_x, .inr (11, [.int 0, .ref m_q1, .int 0, .int 0, .int 0, .int 0, .int 0, .int 0, .int 0, .int 0, .int 0, .int 0, .long 0, .int 0, .ref m_q3, .ref m_q5, .ref m_q7, .ref m_q9, .ref m_q11, .ref m_q13, .ref m_q15, .ref m_q17, .ref m_q19, .int 0, .int 0, .int 0, .int 0, .int (-1), .int (-1), .long 0, .long 0, .ref m_q21, .ref m_q23, .int 0, .int (-1), .int 0, .ref m_q25, .int 0, .ref m_q27, .ref m_q29, .int 0, .int 0, .ref m_q31, .int 0, .int 0, .int 0, .int 0])), (m_q3, .inl (m_y4, 373, .inl (upd (upd (fun _ => 0) 60 2) 62 2)))]) (w1 := []) hP hD [0, 1] [2, 3] rfl rfl (by decide) (by decide) hk1 hFc hP1 hD1
  generalize H1 = H at hP hS ⊢
  clear hPc hDc hKc hFc hP1 hD1 hK1 hk1 hz1
  have hP : va_P (dC, dI) vwCl [(m_x, .inr (11, [.int 0, .ref m_q1, .int 0, .int 0, .int 0, .int 0, .int 0, .int 0, .int 0, .int 0, .int 0, .int 0, .long 0, .int 0, .ref m_q3, .ref m_q5, .ref m_q7, .ref m_q9, .ref m_q11, .ref m_q13, .ref m_q15, .ref m_q17, .ref m_q19, .int 0, .int 0, .int 0, .int 0, .int (-1), .int (-1), .long 0, .long 0, .ref m_q21, .ref m_q23, .int 0, .int (-1), .int 0, .ref m_q25, .int 0, .ref m_q27, .ref m_q29, .int 0, .int 0, .ref m_q31, .int 0, .int 0, .int 0, .int 0])), (m_q3, .inl (m_y4, 373, .inl (upd (upd (fun _ => 0) 60 2) 62 2)))] H := hP
  have hD : va_D A [(m_x, .inr (11, [.int 0, .ref m_q1, .int 0, .int 0, .int 0, .int 0, .int 0, .int 0, .int 0, .int 0, .int 0, .int 0, .long 0, .int 0, .ref m_q3, .ref m_q5, .ref m_q7, .ref m_q9, .ref m_q11, .ref m_q13, .ref m_q15, .ref m_q17, .ref m_q19, .int 0, .int 0, .int 0, .int 0, .int (-1), .int (-1), .long 0, .long 0, .ref m_q21, .ref m_q23, .int 0, .int (-1), .int 0, .ref m_q25, .int 0, .ref m_q27, .ref m_q29, .int 0, .int 0, .ref m_q31, .int 0, .int 0, .int 0, .int 0])), (m_q3, .inl (m_y4, 373, .inl (upd (upd (fun _ => 0) 60 2) 62 2)))] := hD
  refine W.widen (k := 315) (n := 7155) (Nat.le_of_ble_eq_true rfl) (Nat.le_of_ble_eq_true rfl) ?_
  refine zz_top (v := 1) hw ?_
  refine lv_istore (lv' := [(5, .int 1), (4, .int 0), (3, .ref o_q), (2, .ref m_x), (1, .ref x_x), (0, .ref b)]) hx hb dL_law_425 hl (by decide) rfl (fun ls hl => ?_)
  refine lv_aload_n hx hb dL_law_427 rfl (lv_at hl 3 rfl) ?_
  refine lv_aload_n hx hb dL_law_428 rfl (lv_at hl 5 rfl) ?_
  refine lv_iload hx hb dL_law_429 (lv_at hl 1 rfl) ?_
  refine lv_iconst (v := 1) hx hb dL_law_431 (by decide) ?_
  refine lv_iadd hx hb dL_law_432 ?_
  refine zz_top (v := 1) (by decide) ?_
  refine va_sld hx hb hX hbl hbA hS (i := 1) (zz_in (by decide)) dL_law_433 ?_
  refine zz_top (v := a1) (x1) ?_
  refine lv_aload_n hx hb dL_law_434 rfl (lv_at hl 5 rfl) ?_
  refine lv_iload hx hb dL_law_435 (lv_at hl 1 rfl) ?_
  refine lv_iconst (v := 2) hx hb dL_law_437 (by decide) ?_
  refine lv_iadd hx hb dL_law_438 ?_
  refine zz_top (v := 2) (by decide) ?_
  refine va_sld hx hb hX hbl hbA hS (i := 2) (zz_in (by decide)) dL_law_439 ?_
  refine zz_top (v := a2) (x2) ?_
  have hPc := hP.sub (ws' := [(m_x, .inr (11, [.int 0, .ref m_q1, .int 0, .int 0, .int 0, .int 0, .int 0, .int 0, .int 0, .int 0, .int 0, .int 0, .long 0, .int 0, .ref m_q3, .ref m_q5, .ref m_q7, .ref m_q9, .ref m_q11, .ref m_q13, .ref m_q15, .ref m_q17, .ref m_q19, .int 0, .int 0, .int 0, .int 0, .int (-1), .int (-1), .long 0, .long 0, .ref m_q21, .ref m_q23, .int 0, .int (-1), .int 0, .ref m_q25, .int 0, .ref m_q27, .ref m_q29, .int 0, .int 0, .ref m_q31, .int 0, .int 0, .int 0, .int 0])), (m_q3, .inl (m_y4, 373, .inl (upd (upd (fun _ => 0) 60 2) 62 2)))]) [0, 1] rfl
  have hDc := hD.sub (ws' := [(m_x, .inr (11, [.int 0, .ref m_q1, .int 0, .int 0, .int 0, .int 0, .int 0, .int 0, .int 0, .int 0, .int 0, .int 0, .long 0, .int 0, .ref m_q3, .ref m_q5, .ref m_q7, .ref m_q9, .ref m_q11, .ref m_q13, .ref m_q15, .ref m_q17, .ref m_q19, .int 0, .int 0, .int 0, .int 0, .int (-1), .int (-1), .long 0, .long 0, .ref m_q21, .ref m_q23, .int 0, .int (-1), .int 0, .ref m_q25, .int 0, .ref m_q27, .ref m_q29, .int 0, .int 0, .ref m_q31, .int 0, .int 0, .int 0, .int 0])), (m_q3, .inl (m_y4, 373, .inl (upd (upd (fun _ => 0) 60 2) 62 2)))]) [0, 1] (by decide) rfl
  have hKc := hK.sub (tys' := [(m_y4, .int)]) [0] rfl
  have hFc := va_free (wc := [(m_x, .inr (11, [.int 0, .ref m_q1, .int 0, .int 0, .int 0, .int 0, .int 0, .int 0, .int 0, .int 0, .int 0, .int 0, .long 0, .int 0, .ref m_q3, .ref m_q5, .ref m_q7, .ref m_q9, .ref m_q11, .ref m_q13, .ref m_q15, .ref m_q17, .ref m_q19, .int 0, .int 0, .int 0, .int 0, .int (-1), .int (-1), .long 0, .long 0, .ref m_q21, .ref m_q23, .int 0, .int (-1), .int 0, .ref m_q25, .int 0, .ref m_q27, .ref m_q29, .int 0, .int 0, .ref m_q31, .int 0, .int 0, .int 0, .int 0])), (m_q3, .inl (m_y4, 373, .inl (upd (upd (fun _ => 0) 60 2) 62 2)))]) hD hS hA [0, 1] rfl
  refine va_calli (va_runV (As := [.int a1, .int a2]) (rest := []) ⟨hx, hb, hml, hown, hts⟩ (k_X12_dog l dC dI ad m_x m_q1 m_q3 m_q5 m_q7 m_q9 m_q11 m_q13 m_q15 m_q17 m_q19 m_q21 m_q23 m_q25 m_q27 m_q29 m_q31 a1 a2 m_y4 H.size) (cwV 2 hts gT_X12_dog_56 rfl rfl rfl (by decide +kernel) ⟨Nat.le_of_ble_eq_true rfl, Nat.le_of_ble_eq_true rfl⟩) ⟨fun a U g mk q => ⟨q.1, CP.blind q.2⟩, va_recv hKc hPc (ci := 11) (q0 := 0) rfl rfl, fun U hU hW => ⟨rfl, CP.of hPc hKc hDc hE hS hFc hU hW⟩⟩ rfl rfl hl.1 rfl (lv_room (Nat.le_of_ble_eq_true rfl)) dL_law_440 ⟨Nat.le_of_ble_eq_true rfl, Nat.le_of_ble_eq_true rfl⟩) hS (fun q _ h => hFc q h) hFc (fun r2 u t H1 locs ht hvm hw hB hz1 hk1 hS => ?_)
  obtain ⟨hP1, hK1, hD1⟩ := hB
  rw [ht] at hP1
  obtain ⟨hP, hD⟩ := va_join (wr := []) (w1 := [(m_q3, .inl (m_y4, 373, .inl (upd (upd (fun _ => 0) 60 2) 62 2))), (m_x, .inr (11, [.int 1, .ref m_q1, .int 0, .int 0, .int 0, .int 0, .int 0, .int 0, .int 0, .int 0, .int 0, .int 0, .long 0, .int 0, .ref m_q3, .ref m_q5, .ref m_q7, .ref m_q9, .ref m_q11, .ref m_q13, .ref m_q15, .ref m_q17, .ref m_q19, .int 0, .int 0, .int 0, .int 0, .int (-1), .int (-1), .long 0, .long 0, .ref m_q21, .ref m_q23, .int 0, .int (-1), .int 0, .ref m_q25, .int 0, .ref m_q27, .ref m_q29, .int 0, .int 0, .ref m_q31, .int 0, .int 0, .int 0, .int 0]))]) hP hD [0, 1] [] rfl rfl (by decide) (by decide) hk1 hFc hP1 hD1
  generalize H1 = H at hP hS ⊢
  clear hPc hDc hKc hFc hP1 hD1 hK1 hk1 hz1
  have hP : va_P (dC, dI) vwCl [(m_q3, .inl (m_y4, 373, .inl (upd (upd (fun _ => 0) 60 2) 62 2))), (m_x, .inr (11, [.int 1, .ref m_q1, .int 0, .int 0, .int 0, .int 0, .int 0, .int 0, .int 0, .int 0, .int 0, .int 0, .long 0, .int 0, .ref m_q3, .ref m_q5, .ref m_q7, .ref m_q9, .ref m_q11, .ref m_q13, .ref m_q15, .ref m_q17, .ref m_q19, .int 0, .int 0, .int 0, .int 0, .int (-1), .int (-1), .long 0, .long 0, .ref m_q21, .ref m_q23, .int 0, .int (-1), .int 0, .ref m_q25, .int 0, .ref m_q27, .ref m_q29, .int 0, .int 0, .ref m_q31, .int 0, .int 0, .int 0, .int 0]))] H := hP
  have hD : va_D A [(m_q3, .inl (m_y4, 373, .inl (upd (upd (fun _ => 0) 60 2) 62 2))), (m_x, .inr (11, [.int 1, .ref m_q1, .int 0, .int 0, .int 0, .int 0, .int 0, .int 0, .int 0, .int 0, .int 0, .int 0, .long 0, .int 0, .ref m_q3, .ref m_q5, .ref m_q7, .ref m_q9, .ref m_q11, .ref m_q13, .ref m_q15, .ref m_q17, .ref m_q19, .int 0, .int 0, .int 0, .int 0, .int (-1), .int (-1), .long 0, .long 0, .ref m_q21, .ref m_q23, .int 0, .int (-1), .int 0, .ref m_q25, .int 0, .ref m_q27, .ref m_q29, .int 0, .int 0, .ref m_q31, .int 0, .int 0, .int 0, .int 0]))] := hD
  refine zz_top (v := 0) hw ?_
  refine lv_istore (lv' := [(6, .int 0), (5, .int 1), (4, .int 0), (3, .ref o_q), (2, .ref m_x), (1, .ref x_x), (0, .ref b)]) hx hb dL_law_443 hl (by decide) rfl (fun ls hl => ?_)
  refine lv_aload_n hx hb dL_law_445 rfl (lv_at hl 4 rfl) ?_
  have hPc := hP.sub (ws' := [(m_x, .inr (11, [.int 1, .ref m_q1, .int 0, .int 0, .int 0, .int 0, .int 0, .int 0, .int 0, .int 0, .int 0, .int 0, .long 0, .int 0, .ref m_q3, .ref m_q5, .ref m_q7, .ref m_q9, .ref m_q11, .ref m_q13, .ref m_q15, .ref m_q17, .ref m_q19, .int 0, .int 0, .int 0, .int 0, .int (-1), .int (-1), .long 0, .long 0, .ref m_q21, .ref m_q23, .int 0, .int (-1), .int 0, .ref m_q25, .int 0, .ref m_q27, .ref m_q29, .int 0, .int 0, .ref m_q31, .int 0, .int 0, .int 0, .int 0]))]) [1] rfl
  have hDc := hD.sub (ws' := [(m_x, .inr (11, [.int 1, .ref m_q1, .int 0, .int 0, .int 0, .int 0, .int 0, .int 0, .int 0, .int 0, .int 0, .int 0, .long 0, .int 0, .ref m_q3, .ref m_q5, .ref m_q7, .ref m_q9, .ref m_q11, .ref m_q13, .ref m_q15, .ref m_q17, .ref m_q19, .int 0, .int 0, .int 0, .int 0, .int (-1), .int (-1), .long 0, .long 0, .ref m_q21, .ref m_q23, .int 0, .int (-1), .int 0, .ref m_q25, .int 0, .ref m_q27, .ref m_q29, .int 0, .int 0, .ref m_q31, .int 0, .int 0, .int 0, .int 0]))]) [1] (by decide) rfl
  have hKc := hK.sub (tys' := []) [] rfl
  have hFc := va_free (wc := [(m_x, .inr (11, [.int 1, .ref m_q1, .int 0, .int 0, .int 0, .int 0, .int 0, .int 0, .int 0, .int 0, .int 0, .int 0, .long 0, .int 0, .ref m_q3, .ref m_q5, .ref m_q7, .ref m_q9, .ref m_q11, .ref m_q13, .ref m_q15, .ref m_q17, .ref m_q19, .int 0, .int 0, .int 0, .int 0, .int (-1), .int (-1), .long 0, .long 0, .ref m_q21, .ref m_q23, .int 0, .int (-1), .int 0, .ref m_q25, .int 0, .ref m_q27, .ref m_q29, .int 0, .int 0, .ref m_q31, .int 0, .int 0, .int 0, .int 0]))]) hD hS hA [1] rfl
  refine va_calli (va_runV (As := []) (rest := []) ⟨hx, hb, hml, hown, hts⟩ (k_X12_thrown l dC dI ad m_x m_q1 m_q3 m_q5 m_q7 m_q9 m_q11 m_q13 m_q15 m_q17 m_q19 m_q21 m_q23 m_q25 m_q27 m_q29 m_q31 H.size) (cwV 0 hts gT_X12_thrown_51 rfl rfl rfl (by decide +kernel) ⟨Nat.le_of_ble_eq_true rfl, Nat.le_of_ble_eq_true rfl⟩) ⟨fun a U g mk q => ⟨q.1, CP.blind q.2⟩, va_recv hKc hPc (ci := 11) (q0 := 0) rfl rfl, fun U hU hW => ⟨rfl, CP.of hPc hKc hDc hE hS hFc hU hW⟩⟩ rfl rfl hl.1 rfl (lv_room (Nat.le_of_ble_eq_true rfl)) dL_law_446 ⟨Nat.le_of_ble_eq_true rfl, Nat.le_of_ble_eq_true rfl⟩) hS (fun q _ h => hFc q h) hFc (fun r3 u t H1 locs ht hvm hw hB hz1 hk1 hS => ?_)
  obtain ⟨hP1, hK1, hD1⟩ := hB
  rw [ht] at hP1
  obtain ⟨hP, hD⟩ := va_join (wr := [(m_q3, .inl (m_y4, 373, .inl (upd (upd (fun _ => 0) 60 2) 62 2)))]) (w1 := [(m_x, .inr (11, [.int 1, .ref m_q1, .int 0, .int 0, .int 0, .int 0, .int 0, .int 0, .int 0, .int 0, .int 0, .int 0, .long 0, .int 0, .ref m_q3, .ref m_q5, .ref m_q7, .ref m_q9, .ref m_q11, .ref m_q13, .ref m_q15, .ref m_q17, .ref m_q19, .int 0, .int 0, .int 0, .int 0, .int (-1), .int (-1), .long 0, .long 0, .ref m_q21, .ref m_q23, .int 0, .int (-1), .int 0, .ref m_q25, .int 0, .ref m_q27, .ref m_q29, .int 0, .int 0, .ref m_q31, .int 0, .int 0, .int 0, .int 0]))]) hP hD [1] [0] rfl rfl (by decide) (by decide) hk1 hFc hP1 hD1
  generalize H1 = H at hP hS ⊢
  clear hPc hDc hKc hFc hP1 hD1 hK1 hk1 hz1
  have hP : va_P (dC, dI) vwCl [(m_q3, .inl (m_y4, 373, .inl (upd (upd (fun _ => 0) 60 2) 62 2))), (m_x, .inr (11, [.int 1, .ref m_q1, .int 0, .int 0, .int 0, .int 0, .int 0, .int 0, .int 0, .int 0, .int 0, .int 0, .long 0, .int 0, .ref m_q3, .ref m_q5, .ref m_q7, .ref m_q9, .ref m_q11, .ref m_q13, .ref m_q15, .ref m_q17, .ref m_q19, .int 0, .int 0, .int 0, .int 0, .int (-1), .int (-1), .long 0, .long 0, .ref m_q21, .ref m_q23, .int 0, .int (-1), .int 0, .ref m_q25, .int 0, .ref m_q27, .ref m_q29, .int 0, .int 0, .ref m_q31, .int 0, .int 0, .int 0, .int 0]))] H := hP
  have hD : va_D A [(m_q3, .inl (m_y4, 373, .inl (upd (upd (fun _ => 0) 60 2) 62 2))), (m_x, .inr (11, [.int 1, .ref m_q1, .int 0, .int 0, .int 0, .int 0, .int 0, .int 0, .int 0, .int 0, .int 0, .int 0, .long 0, .int 0, .ref m_q3, .ref m_q5, .ref m_q7, .ref m_q9, .ref m_q11, .ref m_q13, .ref m_q15, .ref m_q17, .ref m_q19, .int 0, .int 0, .int 0, .int 0, .int (-1), .int (-1), .long 0, .long 0, .ref m_q21, .ref m_q23, .int 0, .int (-1), .int 0, .ref m_q25, .int 0, .ref m_q27, .ref m_q29, .int 0, .int 0, .ref m_q31, .int 0, .int 0, .int 0, .int 0]))] := hD
  refine zz_top (v := 1) hw ?_
  refine lv_iload hx hb dL_law_449 (lv_at hl 1 rfl) ?_
  refine lv_icmp_eq (tgt := 456) hx hb dL_law_451 (by decide) (fun _ => ?_) (fun c4 => absurd (by decide) c4)
  refine lv_iload hx hb dL_law_456 (lv_at hl 1 rfl) ?_
  refine lv_if_ne (tgt := 473) hx hb dL_law_458 (by decide) (fun _ => ?_) (fun c5 => absurd c5 (by decide))
  refine lv_goto (tgt := 1476) hx hb dL_law_473 (by decide) ?_
  exact law_end l C0 hA2 hbA hS (lv_sub hl [2, 3, 4, 5, 6] rfl) (Nat.le_of_ble_eq_true rfl) (Nat.le_of_ble_eq_true rfl)
set_option maxHeartbeats 4000000 in
set_option maxRecDepth 100000 in
theorem lawc_place {p : Program} {e : Env} {s : State} {m : MethodId} {below : List Frame} {meth : Method} {c : Code} (l : Launch) {b : Nat} {xs : Nat → Int32} (C0 : lw_At p s m meth c b 6 xs) (dC : Nat → ClassId) (dI : Nat → Nat → Nat) (ad : Nat → Nat) (A : Nat → Prop) (hA : ∀ q : Nat, s.heap.size ≤ q → A q) (hA2 : ∀ q : Nat, A q → s.heap.size ≤ q) (hbA : ¬ A b) (x_x m_x o_q x_q1 x_q4 x_q10 x_q16 x_q17 x_q23 x_q27 x_q31 x_q32 x_q49 x_q51 x_q53 x_q78 x_q89 x_q96 x_q5 x_q6 x_q7 x_q8 x_q9 m_q1 m_q3 m_q5 m_q7 m_q9 m_q11 m_q13 m_q15 m_q17 m_q19 m_q21 m_q23 m_q25 m_q27 m_q29 m_q31 : Nat) (m_y4 : ClassId) (H : Heap) (locs : List Loc) (ls : Array Slot) (hK : va_K (dC, dI) vwCl [(m_y4, .int)] s) (hP : va_P (dC, dI) vwCl [(x_x, .inr (10, [.ref x_q1, .ref x_q4, .ref x_q10, .ref x_q16, .ref x_q17, .ref x_q23, .ref x_q27, .ref x_q31, .ref x_q32, .ref x_q49, .ref x_q51, .ref x_q53, .ref x_q78, .ref x_q89, .ref x_q96, .int (-1), .int 0, .int (-1), .int (-1)])), (x_q4, .inr (5, [.ref x_q5, .ref x_q6, .ref x_q7, .ref x_q8, .ref x_q9, .int 0, .int 0, .int 0, .int 2, .int 0, .int 0, .int 0])), (m_x, .inr (11, [.int 0, .ref m_q1, .int 0, .int 0, .int 0, .int 0, .int 0, .int 0, .int 0, .int 0, .int 0, .int 0, .long 0, .int 0, .ref m_q3, .ref m_q5, .ref m_q7, .ref m_q9, .ref m_q11, .ref m_q13, .ref m_q15, .ref m_q17, .ref m_q19, .int 0, .int 0, .int 0, .int 0, .int (-1), .int (-1), .long 0, .long 0, .ref m_q21, .ref m_q23, .int 0, .int (-1), .int 0, .ref m_q25, .int 0, .ref m_q27, .ref m_q29, .int 0, .int 0, .ref m_q31, .int 0, .int 0, .int 0, .int 0])), (m_q3, .inl (m_y4, 373, .inl (upd (upd (fun _ => 0) 60 2) 62 2)))] H) (hD : va_D A [(x_x, .inr (10, [.ref x_q1, .ref x_q4, .ref x_q10, .ref x_q16, .ref x_q17, .ref x_q23, .ref x_q27, .ref x_q31, .ref x_q32, .ref x_q49, .ref x_q51, .ref x_q53, .ref x_q78, .ref x_q89, .ref x_q96, .int (-1), .int 0, .int (-1), .int (-1)])), (x_q4, .inr (5, [.ref x_q5, .ref x_q6, .ref x_q7, .ref x_q8, .ref x_q9, .int 0, .int 0, .int 0, .int 2, .int 0, .int 0, .int 0])), (m_x, .inr (11, [.int 0, .ref m_q1, .int 0, .int 0, .int 0, .int 0, .int 0, .int 0, .int 0, .int 0, .int 0, .int 0, .long 0, .int 0, .ref m_q3, .ref m_q5, .ref m_q7, .ref m_q9, .ref m_q11, .ref m_q13, .ref m_q15, .ref m_q17, .ref m_q19, .int 0, .int 0, .int 0, .int 0, .int (-1), .int (-1), .long 0, .long 0, .ref m_q21, .ref m_q23, .int 0, .int (-1), .int 0, .ref m_q25, .int 0, .ref m_q27, .ref m_q29, .int 0, .int 0, .ref m_q31, .int 0, .int 0, .int 0, .int 0])), (m_q3, .inl (m_y4, 373, .inl (upd (upd (fun _ => 0) 60 2) 62 2)))]) (hS : va_S A s.heap H locs) (hE : EV ad A s s.heap) (hl : lv_has ls 8 [(4, .int 0), (3, .ref o_q), (2, .ref m_x), (1, .ref x_x), (0, .ref b)]) : W p l e room_1 s m #[Value.ref b] below meth c H locs 314 7149 (lw_Z below #[Value.ref b] s) (F0 m 476 ls []) := by
  obtain ⟨hx, hb, hr, hml, hown, hts0, hX, hbl, hlocks, hgv⟩ := id C0
  have hts : ∀ w ∈ lw_tbl, w.before #[Value.ref b] s = true := hts0
  obtain ⟨a1, x1⟩ : ∃ y : Int32, xs 1 = y := ⟨_, rfl⟩
  obtain ⟨a2, x2⟩ : ∃ y : Int32, xs 2 = y := ⟨_, rfl⟩
  refine lv_aload_n hx hb dL_law_476 rfl (lv_at hl 3 rfl) ?_
  refine lv_aload_n hx hb dL_law_477 rfl (lv_at hl 4 rfl) ?_
  refine lv_iload hx hb dL_law_478 (lv_at hl 0 rfl) ?_
  refine lv_iconst (v := 1) hx hb dL_law_480 (by decide) ?_
  refine lv_iadd hx hb dL_law_481 ?_
  refine zz_top (v := 1) (by decide) ?_
  refine va_sld hx hb hX hbl hbA hS (i := 1) (zz_in (by decide)) dL_law_482 ?_
  refine zz_top (v := a1) (x1) ?_
  refine lv_aload_n hx hb dL_law_483 rfl (lv_at hl 4 rfl) ?_
  refine lv_iload hx hb dL_law_484 (lv_at hl 0 rfl) ?_
  refine lv_iconst (v := 2) hx hb dL_law_486 (by decide) ?_
  refine lv_iadd hx hb dL_law_487 ?_
  refine zz_top (v := 2) (by decide) ?_
  refine va_sld hx hb hX hbl hbA hS (i := 2) (zz_in (by decide)) dL_law_488 ?_
  refine zz_top (v := a2) (x2) ?_
  have hPc := hP.sub (ws' := [(x_x, .inr (10, [.ref x_q1, .ref x_q4, .ref x_q10, .ref x_q16, .ref x_q17, .ref x_q23, .ref x_q27, .ref x_q31, .ref x_q32, .ref x_q49, .ref x_q51, .ref x_q53, .ref x_q78, .ref x_q89, .ref x_q96, .int (-1), .int 0, .int (-1), .int (-1)])), (x_q4, .inr (5, [.ref x_q5, .ref x_q6, .ref x_q7, .ref x_q8, .ref x_q9, .int 0, .int 0, .int 0, .int 2, .int 0, .int 0, .int 0]))]) [0, 1] rfl
  have hDc := hD.sub (ws' := [(x_x, .inr (10, [.ref x_q1, .ref x_q4, .ref x_q10, .ref x_q16, .ref x_q17, .ref x_q23, .ref x_q27, .ref x_q31, .ref x_q32, .ref x_q49, .ref x_q51, .ref x_q53, .ref x_q78, .ref x_q89, .ref x_q96, .int (-1), .int 0, .int (-1), .int (-1)])), (x_q4, .inr (5, [.ref x_q5, .ref x_q6, .ref x_q7, .ref x_q8, .ref x_q9, .int 0, .int 0, .int 0, .int 2, .int 0, .int 0, .int 0]))]) [0, 1] (by decide) rfl
  have hKc := hK.sub (tys' := []) [] rfl
  have hFc := va_free (wc := [(x_x, .inr (10, [.ref x_q1, .ref x_q4, .ref x_q10, .ref x_q16, .ref x_q17, .ref x_q23, .ref x_q27, .ref x_q31, .ref x_q32, .ref x_q49, .ref x_q51, .ref x_q53, .ref x_q78, .ref x_q89, .ref x_q96, .int (-1), .int 0, .int (-1), .int (-1)])), (x_q4, .inr (5, [.ref x_q5, .ref x_q6, .ref x_q7, .ref x_q8, .ref x_q9, .int 0, .int 0, .int 0, .int 2, .int 0, .int 0, .int 0]))]) hD hS hA [0, 1] rfl
  refine va_calli (va_runV (As := [.int a1, .int a2]) (rest := []) ⟨hx, hb, hml, hown, hts⟩ (k_X11_place l dC dI ad x_x x_q1 x_q4 x_q10 x_q16 x_q17 x_q23 x_q27 x_q31 x_q32 x_q49 x_q51 x_q53 x_q78 x_q89 x_q96 x_q5 x_q6 x_q7 x_q8 x_q9 a1 a2 H.size) (cwV 2 hts gT_X11_place_57 rfl rfl rfl (by decide +kernel) ⟨Nat.le_of_ble_eq_true rfl, Nat.le_of_ble_eq_true rfl⟩) ⟨fun a U g mk q => ⟨q.1, CP.blind q.2⟩, va_recv hKc hPc (ci := 10) (q0 := 0) rfl rfl, fun U hU hW => ⟨rfl, CP.of hPc hKc hDc hE hS hFc hU hW⟩⟩ rfl rfl hl.1 rfl (lv_room (Nat.le_of_ble_eq_true rfl)) dL_law_489 ⟨Nat.le_of_ble_eq_true rfl, Nat.le_of_ble_eq_true rfl⟩) hS (fun q _ h => hFc q h) hFc (fun r1 u t H1 locs ht hvm hw hB hz1 hk1 hS => ?_)
  obtain ⟨hP1, hK1, hD1⟩ := hB
  rw [ht] at hP1
  obtain ⟨hP, hD⟩ := va_join (wr := [(m_x, .inr (11, [.int 0, .ref m_q1, .int 0, .int 0, .int 0, .int 0, .int 0, .int 0, .int 0, .int 0, .int 0, .int 0, .long 0, .int 0, .ref m_q3, .ref m_q5, .ref m_q7, .ref m_q9, .ref m_q11, .ref m_q13, .ref m_q15, .ref m_q17, .ref m_q19, .int 0, .int 0, .int 0, .int 0, .int (-1), .int (-1), .long 0, .long 0, .ref m_q21, .ref m_q23, .int 0, .int (-1), .int 0, .ref m_q25, .int 0, .ref m_q27, .ref m_q29, .int 0, .int 0, .ref m_q31, .int 0, .int 0, .int 0, .int 0])), (m_q3, .inl (m_y4, 373, .inl (upd (upd (fun _ => 0) 60 2) 62 2)))]) (w1 := []) hP hD [0, 1] [2, 3] rfl rfl (by decide) (by decide) hk1 hFc hP1 hD1
  generalize H1 = H at hP hS ⊢
  clear hPc hDc hKc hFc hP1 hD1 hK1 hk1 hz1
  have hP : va_P (dC, dI) vwCl [(m_x, .inr (11, [.int 0, .ref m_q1, .int 0, .int 0, .int 0, .int 0, .int 0, .int 0, .int 0, .int 0, .int 0, .int 0, .long 0, .int 0, .ref m_q3, .ref m_q5, .ref m_q7, .ref m_q9, .ref m_q11, .ref m_q13, .ref m_q15, .ref m_q17, .ref m_q19, .int 0, .int 0, .int 0, .int 0, .int (-1), .int (-1), .long 0, .long 0, .ref m_q21, .ref m_q23, .int 0, .int (-1), .int 0, .ref m_q25, .int 0, .ref m_q27, .ref m_q29, .int 0, .int 0, .ref m_q31, .int 0, .int 0, .int 0, .int 0])), (m_q3, .inl (m_y4, 373, .inl (upd (upd (fun _ => 0) 60 2) 62 2)))] H := hP
  have hD : va_D A [(m_x, .inr (11, [.int 0, .ref m_q1, .int 0, .int 0, .int 0, .int 0, .int 0, .int 0, .int 0, .int 0, .int 0, .int 0, .long 0, .int 0, .ref m_q3, .ref m_q5, .ref m_q7, .ref m_q9, .ref m_q11, .ref m_q13, .ref m_q15, .ref m_q17, .ref m_q19, .int 0, .int 0, .int 0, .int 0, .int (-1), .int (-1), .long 0, .long 0, .ref m_q21, .ref m_q23, .int 0, .int (-1), .int 0, .ref m_q25, .int 0, .ref m_q27, .ref m_q29, .int 0, .int 0, .ref m_q31, .int 0, .int 0, .int 0, .int 0])), (m_q3, .inl (m_y4, 373, .inl (upd (upd (fun _ => 0) 60 2) 62 2)))] := hD
  refine zz_top (v := (-1)) hw ?_
  refine lv_aload_n hx hb dL_law_492 rfl (lv_at hl 2 rfl) ?_
  refine lv_aload_n hx hb dL_law_493 rfl (lv_at hl 4 rfl) ?_
  refine lv_iload hx hb dL_law_494 (lv_at hl 0 rfl) ?_
  refine lv_iconst (v := 1) hx hb dL_law_496 (by decide) ?_
  refine lv_iadd hx hb dL_law_497 ?_
  refine zz_top (v := 1) (by decide) ?_
  refine va_sld hx hb hX hbl hbA hS (i := 1) (zz_in (by decide)) dL_law_498 ?_
  refine zz_top (v := a1) (x1) ?_
  refine lv_aload_n hx hb dL_law_499 rfl (lv_at hl 4 rfl) ?_
  refine lv_iload hx hb dL_law_500 (lv_at hl 0 rfl) ?_
  refine lv_iconst (v := 2) hx hb dL_law_502 (by decide) ?_
  refine lv_iadd hx hb dL_law_503 ?_
  refine zz_top (v := 2) (by decide) ?_
  refine va_sld hx hb hX hbl hbA hS (i := 2) (zz_in (by decide)) dL_law_504 ?_
  refine zz_top (v := a2) (x2) ?_
  have hPc := hP.sub (ws' := [(m_x, .inr (11, [.int 0, .ref m_q1, .int 0, .int 0, .int 0, .int 0, .int 0, .int 0, .int 0, .int 0, .int 0, .int 0, .long 0, .int 0, .ref m_q3, .ref m_q5, .ref m_q7, .ref m_q9, .ref m_q11, .ref m_q13, .ref m_q15, .ref m_q17, .ref m_q19, .int 0, .int 0, .int 0, .int 0, .int (-1), .int (-1), .long 0, .long 0, .ref m_q21, .ref m_q23, .int 0, .int (-1), .int 0, .ref m_q25, .int 0, .ref m_q27, .ref m_q29, .int 0, .int 0, .ref m_q31, .int 0, .int 0, .int 0, .int 0])), (m_q3, .inl (m_y4, 373, .inl (upd (upd (fun _ => 0) 60 2) 62 2)))]) [0, 1] rfl
  have hDc := hD.sub (ws' := [(m_x, .inr (11, [.int 0, .ref m_q1, .int 0, .int 0, .int 0, .int 0, .int 0, .int 0, .int 0, .int 0, .int 0, .int 0, .long 0, .int 0, .ref m_q3, .ref m_q5, .ref m_q7, .ref m_q9, .ref m_q11, .ref m_q13, .ref m_q15, .ref m_q17, .ref m_q19, .int 0, .int 0, .int 0, .int 0, .int (-1), .int (-1), .long 0, .long 0, .ref m_q21, .ref m_q23, .int 0, .int (-1), .int 0, .ref m_q25, .int 0, .ref m_q27, .ref m_q29, .int 0, .int 0, .ref m_q31, .int 0, .int 0, .int 0, .int 0])), (m_q3, .inl (m_y4, 373, .inl (upd (upd (fun _ => 0) 60 2) 62 2)))]) [0, 1] (by decide) rfl
  have hKc := hK.sub (tys' := [(m_y4, .int)]) [0] rfl
  have hFc := va_free (wc := [(m_x, .inr (11, [.int 0, .ref m_q1, .int 0, .int 0, .int 0, .int 0, .int 0, .int 0, .int 0, .int 0, .int 0, .int 0, .long 0, .int 0, .ref m_q3, .ref m_q5, .ref m_q7, .ref m_q9, .ref m_q11, .ref m_q13, .ref m_q15, .ref m_q17, .ref m_q19, .int 0, .int 0, .int 0, .int 0, .int (-1), .int (-1), .long 0, .long 0, .ref m_q21, .ref m_q23, .int 0, .int (-1), .int 0, .ref m_q25, .int 0, .ref m_q27, .ref m_q29, .int 0, .int 0, .ref m_q31, .int 0, .int 0, .int 0, .int 0])), (m_q3, .inl (m_y4, 373, .inl (upd (upd (fun _ => 0) 60 2) 62 2)))]) hD hS hA [0, 1] rfl
  refine va_calli (va_runV (As := [.int a1, .int a2]) (rest := [.int (-1)]) ⟨hx, hb, hml, hown, hts⟩ (k_X12_place l dC dI ad m_x m_q1 m_q3 m_q5 m_q7 m_q9 m_q11 m_q13 m_q15 m_q17 m_q19 m_q21 m_q23 m_q25 m_q27 m_q29 m_q31 a1 a2 m_y4 H.size) (cwV 2 hts gT_X12_place_60 rfl rfl rfl (by decide +kernel) ⟨Nat.le_of_ble_eq_true rfl, Nat.le_of_ble_eq_true rfl⟩) ⟨fun a U g mk q => ⟨q.1, CP.blind q.2⟩, va_recv hKc hPc (ci := 11) (q0 := 0) rfl rfl, fun U hU hW => ⟨rfl, CP.of hPc hKc hDc hE hS hFc hU hW⟩⟩ rfl rfl hl.1 rfl (lv_room (Nat.le_of_ble_eq_true rfl)) dL_law_505 ⟨Nat.le_of_ble_eq_true rfl, Nat.le_of_ble_eq_true rfl⟩) hS (fun q _ h => hFc q h) hFc (fun r2 u t H1 locs ht hvm hw hB hz1 hk1 hS => ?_)
  obtain ⟨hP1, hK1, hD1⟩ := hB
  rw [ht] at hP1
  obtain ⟨hP, hD⟩ := va_join (wr := []) (w1 := []) hP hD [0, 1] [] rfl rfl (by decide) (by decide) hk1 hFc hP1 hD1
  generalize H1 = H at hP hS ⊢
  clear hPc hDc hKc hFc hP1 hD1 hK1 hk1 hz1
  have hP : va_P (dC, dI) vwCl [] H := hP
  have hD : va_D A [] := hD
  refine zz_top (v := (-1)) hw ?_
  refine lv_icmp_eq (tgt := 1476) hx hb dL_law_508 (by decide) (fun _ => ?_) (fun c3 => absurd (by decide) c3)
  exact law_end l C0 hA2 hbA hS hl (Nat.le_of_ble_eq_true rfl) (Nat.le_of_ble_eq_true rfl)
