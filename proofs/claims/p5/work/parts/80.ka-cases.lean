set_option maxHeartbeats 4000000 in
set_option maxRecDepth 100000 in
theorem lc_feed {p : Program} {e : Env} {s : State} {m : MethodId} {below : List Frame} {meth : Method} {c : Code} (l : Launch) {b L : Nat} {xs : Nat → Int32} (hL : L ≤ 3072) (C0 : lw_At p s m meth c b L xs) (dC : Nat → ClassId) (dI : Nat → Nat → Nat) (ad : Nat → Nat) (E : EP) (hEE : EC ad E) (hE : E (LF s) s s.heap) {A : Nat → Nat} {C : Nat → ClassId} {nb : Nat} {st : Nat → Nat → Int32} {sl : Nat → Nat → Int64} {so : Nat → XR} {ar : Nat → Nat} {cy : Nat → ClassId} {st2 : Nat → Nat → Int32} {sl2 : Nat → Nat → Int64} {a0 o : Nat} {yo : ClassId} {H : Heap} {locs : List Loc} {ls : Array Slot} (i : Nat) (hi : i + 6 ≤ L) (hA0 : A 0 = a0) (h : LH dC dI s H A C nb st sl so ar cy st2 sl2 o yo) (hn : LN ad nb st sl so st2 sl2) (hS : va_S (LF s) s.heap H locs) (hl : lv_has ls 8 [(4, .int (nI i)), (3, .ref o), (2, .ref (ar 0)), (1, .ref a0), (0, .ref b)]) {nc ns : Nat} (h1 : nc + 5 ≤ room_1.cells) (h2 : ns + 170 ≤ room_1.slots) {Q : State → Prop} (kk : LK p l e s m b below meth c dC dI ad ar cy a0 o yo i (nc + 5) (ns + 170) 1393 Q) : W p l e room_1 s m #[Value.ref b] below meth c H locs nc ns Q (F0 m 216 ls []) := by
  subst hA0
  obtain ⟨hx, hb, hr, hml, hown, hts, hX, hbl, hlocks, hgv⟩ := id C0
  have hbA : ¬ LF s b := fun z => absurd hbl (Nat.not_lt.mpr z)
  obtain ⟨g, hg0, hg1, hg2, B, hgB⟩ := hn.2.2.1
  refine lv_aload_n hx hb dL_law_216 rfl (lv_at hl 3 rfl) ?_
  refine lv_aload_n hx hb dL_law_217 rfl (lv_at hl 4 rfl) ?_
  refine lv_iload hx hb dL_law_218 (lv_at hl 0 rfl) ?_
  refine lv_iconst (v := 1) hx hb dL_law_220 (by decide) ?_
  refine lv_iadd hx hb dL_law_221 ?_
  refine zz_top (v := nI (i + 1)) (nI_add i 1) ?_
  refine va_sld hx hb hX hbl hbA hS (i := nI (i + 1)) (vp_in_nI (by omega) (by omega)) dL_law_222 ?_
  refine lv_topi (fun v1 ev1 => ?_)
  refine lv_aload_n hx hb dL_law_223 rfl (lv_at hl 4 rfl) ?_
  refine lv_iload hx hb dL_law_224 (lv_at hl 0 rfl) ?_
  refine lv_iconst (v := 2) hx hb dL_law_226 (by decide) ?_
  refine lv_iadd hx hb dL_law_227 ?_
  refine zz_top (v := nI (i + 2)) (nI_add i 2) ?_
  refine va_sld hx hb hX hbl hbA hS (i := nI (i + 2)) (vp_in_nI (by omega) (by omega)) dL_law_228 ?_
  refine lv_topi (fun v2 ev2 => ?_)
  refine lv_aload_n hx hb dL_law_229 rfl (lv_at hl 4 rfl) ?_
  refine lv_iload hx hb dL_law_230 (lv_at hl 0 rfl) ?_
  refine lv_iconst (v := 3) hx hb dL_law_232 (by decide) ?_
  refine lv_iadd hx hb dL_law_233 ?_
  refine zz_top (v := nI (i + 3)) (nI_add i 3) ?_
  refine va_sld hx hb hX hbl hbA hS (i := nI (i + 3)) (vp_in_nI (by omega) (by omega)) dL_law_234 ?_
  refine lv_topi (fun v3 ev3 => ?_)
  refine lv_aload_n hx hb dL_law_235 rfl (lv_at hl 4 rfl) ?_
  refine lv_iload hx hb dL_law_236 (lv_at hl 0 rfl) ?_
  refine lv_iconst (v := 4) hx hb dL_law_238 (by decide) ?_
  refine lv_iadd hx hb dL_law_239 ?_
  refine zz_top (v := nI (i + 4)) (nI_add i 4) ?_
  refine va_sld hx hb hX hbl hbA hS (i := nI (i + 4)) (vp_in_nI (by omega) (by omega)) dL_law_240 ?_
  refine lv_topi (fun v4 ev4 => ?_)
  refine lv_aload_n hx hb dL_law_241 rfl (lv_at hl 4 rfl) ?_
  refine lv_iload hx hb dL_law_242 (lv_at hl 0 rfl) ?_
  refine lv_iconst (v := 5) hx hb dL_law_244 (by decide) ?_
  refine lv_iadd hx hb dL_law_245 ?_
  refine zz_top (v := nI (i + 5)) (nI_add i 5) ?_
  refine va_sld hx hb hX hbl hbA hS (i := nI (i + 5)) (vp_in_nI (by omega) (by omega)) dL_law_246 ?_
  refine lv_topi (fun v5 ev5 => ?_)
  refine va_calli (va_runV (As := [.int v1, .int v2, .int v3, .int v4, .int v5]) (rest := []) ⟨hx, hb, hml, hown, hts⟩ (x_X11_feed l dC dI ad E hEE A C nb H.size h.1.1 st sl so v1 v2 v3 v4 v5 g hn.1.1 hg1 hg0) (cwV 5 hts gT_X11_feed_26 rfl rfl rfl (by decide +kernel) ⟨Nat.le_of_ble_eq_true rfl, Nat.le_of_ble_eq_true rfl⟩) ⟨fun a U g mk q => ⟨q.1, xPre.blind hEE q.2⟩, va_recv h.2.2.2.2.1 h.2.1 (ci := 10) (q0 := 0) rfl (xw_is (r := 0) (by omega) (xc_fix (r := 0) (by omega))), fun U hU hW => ⟨rfl, xPre.ofg hEE h.2.1 h.2.2.2.2.1 hE hS (h.fx hS) hU hW⟩⟩ rfl rfl hl.1 rfl (lv_room (Nat.le_of_ble_eq_true rfl)) dL_law_247 ⟨by omega, by omega⟩) hS (fun q _ z => h.fx hS q z) (h.fx hS) (fun r7 x8 t6 H9 locs ht hvm hwx hB hz1 hk1 hS => ?_)
  have h := h.cx (xB.at ht hB) hk1
  clear hB hz1 hk1 ht hvm
  refine lv_pop hx hb dL_law_250 rfl ?_
  refine lv_aload_n hx hb dL_law_251 rfl (lv_at hl 2 rfl) ?_
  refine lv_aload_n hx hb dL_law_252 rfl (lv_at hl 4 rfl) ?_
  refine lv_iload hx hb dL_law_253 (lv_at hl 0 rfl) ?_
  refine lv_iconst (v := 1) hx hb dL_law_255 (by decide) ?_
  refine lv_iadd hx hb dL_law_256 ?_
  refine zz_top (v := nI (i + 1)) (nI_add i 1) ?_
  refine va_sld hx hb hX hbl hbA hS (i := nI (i + 1)) (vp_in_nI (by omega) (by omega)) dL_law_257 ?_
  refine lv_topi (fun v10 ev10 => ?_)
  refine lv_aload_n hx hb dL_law_258 rfl (lv_at hl 4 rfl) ?_
  refine lv_iload hx hb dL_law_259 (lv_at hl 0 rfl) ?_
  refine lv_iconst (v := 2) hx hb dL_law_261 (by decide) ?_
  refine lv_iadd hx hb dL_law_262 ?_
  refine zz_top (v := nI (i + 2)) (nI_add i 2) ?_
  refine va_sld hx hb hX hbl hbA hS (i := nI (i + 2)) (vp_in_nI (by omega) (by omega)) dL_law_263 ?_
  refine lv_topi (fun v11 ev11 => ?_)
  refine lv_aload_n hx hb dL_law_264 rfl (lv_at hl 4 rfl) ?_
  refine lv_iload hx hb dL_law_265 (lv_at hl 0 rfl) ?_
  refine lv_iconst (v := 3) hx hb dL_law_267 (by decide) ?_
  refine lv_iadd hx hb dL_law_268 ?_
  refine zz_top (v := nI (i + 3)) (nI_add i 3) ?_
  refine va_sld hx hb hX hbl hbA hS (i := nI (i + 3)) (vp_in_nI (by omega) (by omega)) dL_law_269 ?_
  refine lv_topi (fun v12 ev12 => ?_)
  refine lv_aload_n hx hb dL_law_270 rfl (lv_at hl 4 rfl) ?_
  refine lv_iload hx hb dL_law_271 (lv_at hl 0 rfl) ?_
  refine lv_iconst (v := 4) hx hb dL_law_273 (by decide) ?_
  refine lv_iadd hx hb dL_law_274 ?_
  refine zz_top (v := nI (i + 4)) (nI_add i 4) ?_
  refine va_sld hx hb hX hbl hbA hS (i := nI (i + 4)) (vp_in_nI (by omega) (by omega)) dL_law_275 ?_
  refine lv_topi (fun v13 ev13 => ?_)
  refine lv_aload_n hx hb dL_law_276 rfl (lv_at hl 4 rfl) ?_
  refine lv_iload hx hb dL_law_277 (lv_at hl 0 rfl) ?_
  refine lv_iconst (v := 5) hx hb dL_law_279 (by decide) ?_
  refine lv_iadd hx hb dL_law_280 ?_
  refine zz_top (v := nI (i + 5)) (nI_add i 5) ?_
  refine va_sld hx hb hX hbl hbA hS (i := nI (i + 5)) (vp_in_nI (by omega) (by omega)) dL_law_281 ?_
  refine lv_topi (fun v14 ev14 => ?_)
  refine va_calli (va_runV (As := [.int v10, .int v11, .int v12, .int v13, .int v14]) (rest := []) ⟨hx, hb, hml, hown, hts⟩ (m_feed l dC dI ar cy H9.size h.1.2.1 st2 sl2 v10 v11 v12 v13 v14 g hn.2.1.1 hg2 hg0) (cwV 5 hts gT_X12_feed_30 rfl rfl rfl (by decide +kernel) ⟨Nat.le_of_ble_eq_true rfl, Nat.le_of_ble_eq_true rfl⟩) ⟨fun a U g mk q => ⟨q.1, mPre.blind q.2⟩, va_recv h.2.2.2.2.2.1 h.2.2.1 (ci := 11) (q0 := 0) rfl rfl, fun U hU hW => ⟨rfl, mPre.of h.2.2.1 h.2.2.2.2.2.1 hU hW⟩⟩ rfl rfl hl.1 rfl (lv_room (Nat.le_of_ble_eq_true rfl)) dL_law_282 ⟨by omega, by omega⟩) hS (fun q _ z => h.fm hS q z) (h.fm hS) (fun r16 x17 t15 H18 locs ht hvm hwm hB hz1 hk1 hS => ?_)
  have h := h.cm (mB.at ht hB) hk1
  clear hB hz1 hk1 ht hvm
  refine lv_pop hx hb dL_law_285 rfl ?_
  refine lv_goto (tgt := 1393) hx hb dL_law_286 (by decide) ?_
  obtain ⟨hM, hQ, hmf⟩ := hwm
  obtain ⟨hG, hLx, hso, hxf⟩ := hwx
  have hwv1 : v1 = v10 := ev1.trans ev10.symm
  have hwv2 : v2 = v11 := ev2.trans ev11.symm
  have hwv3 : v3 = v12 := ev3.trans ev12.symm
  have hwv4 : v4 = v13 := ev4.trans ev13.symm
  have hwv5 : v5 = v14 := ev5.trans ev14.symm
  have htp : ∃ g, g < 941 ∧ x8.1 1 1 = nI g ∧ x17.1 0 2 = nI g ∧ TB g x8.1 x17.1 := by
    rcases hxf with ⟨a1, a2, a3, a4⟩ | ⟨n1, a1, a2, a3, a4, a5, a6⟩ <;> rcases hmf with ⟨b1, b2, b3, b4⟩ | ⟨n2, b1, b2, b3, b4, b5, b6⟩
    · exact ⟨g, hg0, a3, b3, TB.eq ⟨B, hgB⟩ (fun j _ => a4 j) (fun j _ => b4 j)⟩
    · omega
    · omega
    · rw [← hwv1, ← hwv2, ← hwv3, ← hwv4, ← hwv5] at b6
      exact ⟨g + 20, by omega, a4, b4, TB.feed ⟨B, hgB⟩ a5 b5 a6 b6⟩
  refine W.widen (k := nc + 5) (n := ns + 170) (by omega) (by omega) ?_
  exact kk _ _ _ _ _ _ _ _ _ _ _ rfl h ⟨⟨hG.1, by rw [hso]; exact hn.1.2.1, hn.1.2.2.1.mg hG (by decide), by rw [hso]; exact hn.1.2.2.2.mgs hG (by decide) (by decide)⟩, ⟨hM.1, hn.2.1.2.1.mg hM (by decide), hn.2.1.2.2.1.mg hM (by decide), hn.2.1.2.2.2.mg hM (by decide)⟩, htp, ⟨hn.ck hG hM (by decide) (by decide), ⟨hn.2.2.2.2.1.ni (NI.rf.mg hG (by decide) (by decide) hLx) hM (by decide) (by decide) hQ (by decide) (by decide), ((hG.2 0 16 (by decide)).trans hn.2.2.2.2.2).trans (hM.2 0 10 (by decide)).symm⟩⟩⟩ hS hl
set_option maxHeartbeats 4000000 in
set_option maxRecDepth 100000 in
theorem lc_end {p : Program} {e : Env} {s : State} {m : MethodId} {below : List Frame} {meth : Method} {c : Code} (l : Launch) {b L : Nat} {xs : Nat → Int32} (hL : L ≤ 3072) (C0 : lw_At p s m meth c b L xs) (dC : Nat → ClassId) (dI : Nat → Nat → Nat) (ad : Nat → Nat) (E : EP) (hEE : EC ad E) (hE : E (LF s) s s.heap) {A : Nat → Nat} {C : Nat → ClassId} {nb : Nat} {st : Nat → Nat → Int32} {sl : Nat → Nat → Int64} {so : Nat → XR} {ar : Nat → Nat} {cy : Nat → ClassId} {st2 : Nat → Nat → Int32} {sl2 : Nat → Nat → Int64} {a0 o : Nat} {yo : ClassId} {H : Heap} {locs : List Loc} {ls : Array Slot} (i : Nat) (hi : i + 6 ≤ L) (hA0 : A 0 = a0) (h : LH dC dI s H A C nb st sl so ar cy st2 sl2 o yo) (hn : LN ad nb st sl so st2 sl2) (hS : va_S (LF s) s.heap H locs) (hl : lv_has ls 8 [(4, .int (nI i)), (3, .ref o), (2, .ref (ar 0)), (1, .ref a0), (0, .ref b)]) {nc ns : Nat} (h1 : nc + 5 ≤ room_1.cells) (h2 : ns + 170 ≤ room_1.slots) {Q : State → Prop} (kk : LK p l e s m b below meth c dC dI ad ar cy a0 o yo i (nc + 5) (ns + 170) 1393 Q) : W p l e room_1 s m #[Value.ref b] below meth c H locs nc ns Q (F0 m 289 ls []) := by
  subst hA0
  obtain ⟨hx, hb, hr, hml, hown, hts, hX, hbl, hlocks, hgv⟩ := id C0
  have hbA : ¬ LF s b := fun z => absurd hbl (Nat.not_lt.mpr z)
  obtain ⟨g, hg0, hg1, hg2, B, hgB⟩ := hn.2.2.1
  refine lv_aload_n hx hb dL_law_289 rfl (lv_at hl 3 rfl) ?_
  refine lv_aload_n hx hb dL_law_290 rfl (lv_at hl 4 rfl) ?_
  refine lv_iload hx hb dL_law_291 (lv_at hl 0 rfl) ?_
  refine lv_iconst (v := 1) hx hb dL_law_293 (by decide) ?_
  refine lv_iadd hx hb dL_law_294 ?_
  refine zz_top (v := nI (i + 1)) (nI_add i 1) ?_
  refine va_sld hx hb hX hbl hbA hS (i := nI (i + 1)) (vp_in_nI (by omega) (by omega)) dL_law_295 ?_
  refine lv_topi (fun v1 ev1 => ?_)
  refine va_calli (va_runV (As := [.int v1]) (rest := []) ⟨hx, hb, hml, hown, hts⟩ (x_X11_end l dC dI ad E hEE A C nb H.size h.1.1 st sl so v1 g hn.1.1 hg1 hg0) (cwV 1 hts gT_X11_end_31 rfl rfl rfl (by decide +kernel) ⟨Nat.le_of_ble_eq_true rfl, Nat.le_of_ble_eq_true rfl⟩) ⟨fun a U g mk q => ⟨q.1, xPre.blind hEE q.2⟩, va_recv h.2.2.2.2.1 h.2.1 (ci := 10) (q0 := 0) rfl (xw_is (r := 0) (by omega) (xc_fix (r := 0) (by omega))), fun U hU hW => ⟨rfl, xPre.ofg hEE h.2.1 h.2.2.2.2.1 hE hS (h.fx hS) hU hW⟩⟩ rfl rfl hl.1 rfl (lv_room (Nat.le_of_ble_eq_true rfl)) dL_law_296 ⟨by omega, by omega⟩) hS (fun q _ z => h.fx hS q z) (h.fx hS) (fun r3 x4 t2 H5 locs ht hvm hwx hB hz1 hk1 hS => ?_)
  have h := h.cx (xB.at ht hB) hk1
  clear hB hz1 hk1 ht hvm
  refine lv_pop hx hb dL_law_299 rfl ?_
  refine lv_aload_n hx hb dL_law_300 rfl (lv_at hl 2 rfl) ?_
  refine lv_aload_n hx hb dL_law_301 rfl (lv_at hl 4 rfl) ?_
  refine lv_iload hx hb dL_law_302 (lv_at hl 0 rfl) ?_
  refine lv_iconst (v := 1) hx hb dL_law_304 (by decide) ?_
  refine lv_iadd hx hb dL_law_305 ?_
  refine zz_top (v := nI (i + 1)) (nI_add i 1) ?_
  refine va_sld hx hb hX hbl hbA hS (i := nI (i + 1)) (vp_in_nI (by omega) (by omega)) dL_law_306 ?_
  refine lv_topi (fun v6 ev6 => ?_)
  refine va_calli (va_runV (As := [.int v6]) (rest := []) ⟨hx, hb, hml, hown, hts⟩ (m_end l dC dI ar cy H5.size h.1.2.1 st2 sl2 v6 g hn.2.1.1 hg2 hg0) (cwV 1 hts gT_X12_end_35 rfl rfl rfl (by decide +kernel) ⟨Nat.le_of_ble_eq_true rfl, Nat.le_of_ble_eq_true rfl⟩) ⟨fun a U g mk q => ⟨q.1, mPre.blind q.2⟩, va_recv h.2.2.2.2.2.1 h.2.2.1 (ci := 11) (q0 := 0) rfl rfl, fun U hU hW => ⟨rfl, mPre.of h.2.2.1 h.2.2.2.2.2.1 hU hW⟩⟩ rfl rfl hl.1 rfl (lv_room (Nat.le_of_ble_eq_true rfl)) dL_law_307 ⟨by omega, by omega⟩) hS (fun q _ z => h.fm hS q z) (h.fm hS) (fun r8 x9 t7 H10 locs ht hvm hwm hB hz1 hk1 hS => ?_)
  have h := h.cm (mB.at ht hB) hk1
  clear hB hz1 hk1 ht hvm
  refine lv_pop hx hb dL_law_310 rfl ?_
  refine lv_goto (tgt := 1393) hx hb dL_law_311 (by decide) ?_
  obtain ⟨hM, hQ, hmf⟩ := hwm
  have hvv : v1 = v6 := ev1.trans ev6.symm
  rw [← hvv] at hmf
  obtain ⟨hG, hLx, hso, hxf⟩ := hwx
  have htp : ∃ g, g < 941 ∧ x4.1 1 1 = nI g ∧ x9.1 0 2 = nI g ∧ TB g x4.1 x9.1 := by
    rcases hxf with ⟨n1, a1, a2, a3, a4⟩ | ⟨a1, a2, a3⟩ <;> rcases hmf with ⟨n2, b1, b2, b3, b4⟩ | ⟨b1, b2, b3⟩
    · have e : n1 = n2 := zz_nI (by omega) (by omega) (a2.symm.trans b2)
      exact ⟨n1, by omega, a4, e ▸ b4, TB.mg (TB.le ⟨B, hgB⟩ a3) hG hM (by decide) (by decide)⟩
    · exact absurd ⟨n1, a3, a2⟩ b2
    · exact absurd ⟨n2, b3, b2⟩ a2
    · exact ⟨g, hg0, a3, b3, TB.mg ⟨B, hgB⟩ hG hM (by decide) (by decide)⟩
  refine W.widen (k := nc + 5) (n := ns + 170) (by omega) (by omega) ?_
  exact kk _ _ _ _ _ _ _ _ _ _ _ rfl h ⟨⟨hG.1, by rw [hso]; exact hn.1.2.1, hn.1.2.2.1.mg hG (by decide), by rw [hso]; exact hn.1.2.2.2.mgs hG (by decide) (by decide)⟩, ⟨hM.1, hn.2.1.2.1.mg hM (by decide), hn.2.1.2.2.1.mg hM (by decide), hn.2.1.2.2.2.mg hM (by decide)⟩, htp, ⟨hn.ck hG hM (by decide) (by decide), ⟨hn.2.2.2.2.1.ni (NI.rf.mg hG (by decide) (by decide) hLx) hM (by decide) (by decide) hQ (by decide) (by decide), ((hG.2 0 16 (by decide)).trans hn.2.2.2.2.2).trans (hM.2 0 10 (by decide)).symm⟩⟩⟩ hS hl
set_option maxHeartbeats 4000000 in
set_option maxRecDepth 100000 in
theorem lc_park {p : Program} {e : Env} {s : State} {m : MethodId} {below : List Frame} {meth : Method} {c : Code} (l : Launch) {b L : Nat} {xs : Nat → Int32} (hL : L ≤ 3072) (C0 : lw_At p s m meth c b L xs) (dC : Nat → ClassId) (dI : Nat → Nat → Nat) (ad : Nat → Nat) (E : EP) (hEE : EC ad E) (hE : E (LF s) s s.heap) {A : Nat → Nat} {C : Nat → ClassId} {nb : Nat} {st : Nat → Nat → Int32} {sl : Nat → Nat → Int64} {so : Nat → XR} {ar : Nat → Nat} {cy : Nat → ClassId} {st2 : Nat → Nat → Int32} {sl2 : Nat → Nat → Int64} {a0 o : Nat} {yo : ClassId} {H : Heap} {locs : List Loc} {ls : Array Slot} (i : Nat) (hi : i + 6 ≤ L) (hA0 : A 0 = a0) (h : LH dC dI s H A C nb st sl so ar cy st2 sl2 o yo) (hn : LN ad nb st sl so st2 sl2) (hS : va_S (LF s) s.heap H locs) (hl : lv_has ls 8 [(4, .int (nI i)), (3, .ref o), (2, .ref (ar 0)), (1, .ref a0), (0, .ref b)]) {nc ns : Nat} (h1 : nc + 5 ≤ room_1.cells) (h2 : ns + 170 ≤ room_1.slots) {Q : State → Prop} (kk : LK p l e s m b below meth c dC dI ad ar cy a0 o yo i (nc + 5) (ns + 170) 1393 Q) : W p l e room_1 s m #[Value.ref b] below meth c H locs nc ns Q (F0 m 314 ls []) := by
  subst hA0
  obtain ⟨hx, hb, hr, hml, hown, hts, hX, hbl, hlocks, hgv⟩ := id C0
  have hbA : ¬ LF s b := fun z => absurd hbl (Nat.not_lt.mpr z)
  obtain ⟨g, hg0, hg1, hg2, B, hgB⟩ := hn.2.2.1
  refine lv_aload_n hx hb dL_law_314 rfl (lv_at hl 3 rfl) ?_
  refine va_calli (va_runV (As := []) (rest := []) ⟨hx, hb, hml, hown, hts⟩ (x_X11_parkF l dC dI ad E hEE A C nb H.size h.1.1 st sl so B g hn.1.1 hn.1.2.1 hn.1.2.2.2 hg1 hg0 (fun j hj => ⟨(hgB j hj).1, (hgB j hj).2.2⟩)) (cwV 0 hts gT_X11_park_36 rfl rfl rfl (by decide +kernel) ⟨Nat.le_of_ble_eq_true rfl, Nat.le_of_ble_eq_true rfl⟩) ⟨fun a U g mk q => ⟨q.1, xPre.blind hEE q.2⟩, va_recv h.2.2.2.2.1 h.2.1 (ci := 10) (q0 := 0) rfl (xw_is (r := 0) (by omega) (xc_fix (r := 0) (by omega))), fun U hU hW => ⟨rfl, xPre.ofg hEE h.2.1 h.2.2.2.2.1 hE hS (h.fx hS) hU hW⟩⟩ rfl rfl hl.1 rfl (lv_room (Nat.le_of_ble_eq_true rfl)) dL_law_315 ⟨by omega, by omega⟩) hS (fun q _ z => h.fx hS q z) (h.fx hS) (fun r2 x3 t1 H4 locs ht hvm hwx hB hz1 hk1 hS => ?_)
  have h := h.cx (xB.at ht hB) hk1
  clear hB hz1 hk1 ht hvm
  refine lv_pop hx hb dL_law_318 rfl ?_
  refine lv_aload_n hx hb dL_law_319 rfl (lv_at hl 2 rfl) ?_
  refine va_calli (va_runV (As := []) (rest := []) ⟨hx, hb, hml, hown, hts⟩ (f_park l dC dI ar cy H4.size h.1.2.1 st2 sl2 B g hn.2.1.1 hg2 hg0 (fun j hj => ⟨(hgB j hj).2.1, (hgB j hj).2.2⟩)) (cwV 0 hts gT_X12_park_40 rfl rfl rfl (by decide +kernel) ⟨Nat.le_of_ble_eq_true rfl, Nat.le_of_ble_eq_true rfl⟩) ⟨fun a U g mk q => ⟨q.1, mPre.blind q.2⟩, va_recv h.2.2.2.2.2.1 h.2.2.1 (ci := 11) (q0 := 0) rfl rfl, fun U hU hW => ⟨rfl, mPre.of h.2.2.1 h.2.2.2.2.2.1 hU hW⟩⟩ rfl rfl hl.1 rfl (lv_room (Nat.le_of_ble_eq_true rfl)) dL_law_320 ⟨by omega, by omega⟩) hS (fun q _ z => h.fm hS q z) (h.fm hS) (fun r6 x7 t5 H8 locs ht hvm hwm hB hz1 hk1 hS => ?_)
  have h := h.cm (mB.at ht hB) hk1
  clear hB hz1 hk1 ht hvm
  refine lv_pop hx hb dL_law_323 rfl ?_
  refine lv_goto (tgt := 1393) hx hb dL_law_324 (by decide) ?_
  obtain ⟨hM, hmf⟩ := hwm
  obtain ⟨hG, hso, hxf⟩ := hwx
  refine W.widen (k := nc + 5) (n := ns + 170) (by omega) (by omega) ?_
  exact kk _ _ _ _ _ _ _ _ _ _ _ rfl h ⟨⟨hG.1, hso.1, hn.1.2.2.1.mg hG (by decide), hxf.2.1⟩, ⟨hM.1, hmf.2.1 hn.2.1.2.1, hn.2.1.2.2.1.mg hM (by decide), hn.2.1.2.2.2.mg hM (by decide)⟩, LN.cz hxf.1 hmf.1, ⟨hn.ck hG hM (by decide) (by decide), ⟨hn.2.2.2.2.1.park hxf.2.2.2.1 hmf.2.2.2.1 hM (by decide), hxf.2.2.2.2.trans hmf.2.2.2.2.symm⟩⟩⟩ hS hl
set_option maxHeartbeats 4000000 in
set_option maxRecDepth 100000 in
theorem lc_fault {p : Program} {e : Env} {s : State} {m : MethodId} {below : List Frame} {meth : Method} {c : Code} (l : Launch) {b L : Nat} {xs : Nat → Int32} (hL : L ≤ 3072) (C0 : lw_At p s m meth c b L xs) (dC : Nat → ClassId) (dI : Nat → Nat → Nat) (ad : Nat → Nat) (E : EP) (hEE : EC ad E) (hE : E (LF s) s s.heap) {A : Nat → Nat} {C : Nat → ClassId} {nb : Nat} {st : Nat → Nat → Int32} {sl : Nat → Nat → Int64} {so : Nat → XR} {ar : Nat → Nat} {cy : Nat → ClassId} {st2 : Nat → Nat → Int32} {sl2 : Nat → Nat → Int64} {a0 o : Nat} {yo : ClassId} {H : Heap} {locs : List Loc} {ls : Array Slot} (i : Nat) (hi : i + 6 ≤ L) (hA0 : A 0 = a0) (h : LH dC dI s H A C nb st sl so ar cy st2 sl2 o yo) (hn : LN ad nb st sl so st2 sl2) (hS : va_S (LF s) s.heap H locs) (hl : lv_has ls 8 [(4, .int (nI i)), (3, .ref o), (2, .ref (ar 0)), (1, .ref a0), (0, .ref b)]) {nc ns : Nat} (h1 : nc + 5 ≤ room_1.cells) (h2 : ns + 170 ≤ room_1.slots) {Q : State → Prop} (kk : LK p l e s m b below meth c dC dI ad ar cy a0 o yo i (nc + 5) (ns + 170) 1393 Q) : W p l e room_1 s m #[Value.ref b] below meth c H locs nc ns Q (F0 m 327 ls []) := by
  subst hA0
  obtain ⟨hx, hb, hr, hml, hown, hts, hX, hbl, hlocks, hgv⟩ := id C0
  have hbA : ¬ LF s b := fun z => absurd hbl (Nat.not_lt.mpr z)
  obtain ⟨g, hg0, hg1, hg2, B, hgB⟩ := hn.2.2.1
  refine lv_aload_n hx hb dL_law_327 rfl (lv_at hl 3 rfl) ?_
  refine va_calli (va_runV (As := []) (rest := []) ⟨hx, hb, hml, hown, hts⟩ (x_X11_fault l dC dI ad E hEE A C nb H.size h.1.1 st sl so hn.1.1) (cwV 0 hts gT_X11_fault_41 rfl rfl rfl (by decide +kernel) ⟨Nat.le_of_ble_eq_true rfl, Nat.le_of_ble_eq_true rfl⟩) ⟨fun a U g mk q => ⟨q.1, xPre.blind hEE q.2⟩, va_recv h.2.2.2.2.1 h.2.1 (ci := 10) (q0 := 0) rfl (xw_is (r := 0) (by omega) (xc_fix (r := 0) (by omega))), fun U hU hW => ⟨rfl, xPre.ofg hEE h.2.1 h.2.2.2.2.1 hE hS (h.fx hS) hU hW⟩⟩ rfl rfl hl.1 rfl (lv_room (Nat.le_of_ble_eq_true rfl)) dL_law_328 ⟨by omega, by omega⟩) hS (fun q _ z => h.fx hS q z) (h.fx hS) (fun r2 x3 t1 H4 locs ht hvm hwx hB hz1 hk1 hS => ?_)
  have h := h.cx (xB.at ht hB) hk1
  clear hB hz1 hk1 ht hvm
  refine lv_aload_n hx hb dL_law_331 rfl (lv_at hl 2 rfl) ?_
  refine va_calli (va_runV (As := []) (rest := [.int r2]) ⟨hx, hb, hml, hown, hts⟩ (m_fault l dC dI ar cy H4.size h.1.2.1 st2 sl2 hn.2.1.1) (cwV 0 hts gT_X12_fault_44 rfl rfl rfl (by decide +kernel) ⟨Nat.le_of_ble_eq_true rfl, Nat.le_of_ble_eq_true rfl⟩) ⟨fun a U g mk q => ⟨q.1, mPre.blind q.2⟩, va_recv h.2.2.2.2.2.1 h.2.2.1 (ci := 11) (q0 := 0) rfl rfl, fun U hU hW => ⟨rfl, mPre.of h.2.2.1 h.2.2.2.2.2.1 hU hW⟩⟩ rfl rfl hl.1 rfl (lv_room (Nat.le_of_ble_eq_true rfl)) dL_law_332 ⟨by omega, by omega⟩) hS (fun q _ z => h.fm hS q z) (h.fm hS) (fun r6 x7 t5 H8 locs ht hvm hwm hB hz1 hk1 hS => ?_)
  have h := h.cm (mB.at ht hB) hk1
  clear hB hz1 hk1 ht hvm
  have hrr : r2 = r6 := by
    exact (hwx.2.2.2.trans hn.2.2.2.2.2).trans hwm.2.2.symm
  subst hrr
  refine lv_icmp_eq (tgt := 1393) hx hb dL_law_335 (by decide) (fun _ => ?_) (fun c9 => absurd rfl c9)
  obtain ⟨hM, hQ, hmf⟩ := hwm
  obtain ⟨hG, hLx, hso, hxf⟩ := hwx
  refine W.widen (k := nc + 5) (n := ns + 170) (by omega) (by omega) ?_
  exact kk _ _ _ _ _ _ _ _ _ _ _ rfl h ⟨⟨hG.1, by rw [hso]; exact hn.1.2.1, hn.1.2.2.1.mg hG (by decide), by rw [hso]; exact hn.1.2.2.2.mgs hG (by decide) (by decide)⟩, ⟨hM.1, hn.2.1.2.1.mg hM (by decide), hn.2.1.2.2.1.mg hM (by decide), hn.2.1.2.2.2.mg hM (by decide)⟩, hn.ct hG hM (by decide) (by decide) (by decide) (by decide), ⟨hn.ck hG hM (by decide) (by decide), ⟨hn.2.2.2.2.1.ni (NI.rf.mg hG (by decide) (by decide) hLx) hM (by decide) (by decide) hQ (by decide) (by decide), ((hG.2 0 16 (by decide)).trans hn.2.2.2.2.2).trans (hM.2 0 10 (by decide)).symm⟩⟩⟩ hS hl
set_option maxHeartbeats 4000000 in
set_option maxRecDepth 100000 in
theorem lc_person {p : Program} {e : Env} {s : State} {m : MethodId} {below : List Frame} {meth : Method} {c : Code} (l : Launch) {b L : Nat} {xs : Nat → Int32} (hL : L ≤ 3072) (C0 : lw_At p s m meth c b L xs) (dC : Nat → ClassId) (dI : Nat → Nat → Nat) (ad : Nat → Nat) (E : EP) (hEE : EC ad E) (hst : l.stackTraces = false) (hEE2 : ∀ A U H, E A U H → EX A U H) (hE : E (LF s) s s.heap) {A : Nat → Nat} {C : Nat → ClassId} {nb : Nat} {st : Nat → Nat → Int32} {sl : Nat → Nat → Int64} {so : Nat → XR} {ar : Nat → Nat} {cy : Nat → ClassId} {st2 : Nat → Nat → Int32} {sl2 : Nat → Nat → Int64} {a0 o : Nat} {yo : ClassId} {H : Heap} {locs : List Loc} {ls : Array Slot} (i : Nat) (hi : i + 6 ≤ L) (hA0 : A 0 = a0) (h : LH dC dI s H A C nb st sl so ar cy st2 sl2 o yo) (hn : LN ad nb st sl so st2 sl2) (hS : va_S (LF s) s.heap H locs) (hl : lv_has ls 8 [(4, .int (nI i)), (3, .ref o), (2, .ref (ar 0)), (1, .ref a0), (0, .ref b)]) {nc ns : Nat} (h1 : nc + 5 ≤ room_1.cells) (h2 : ns + 170 ≤ room_1.slots) {Q : State → Prop} (kk : LK p l e s m b below meth c dC dI ad ar cy a0 o yo i (nc + 5) (ns + 170) 1393 Q) : W p l e room_1 s m #[Value.ref b] below meth c H locs nc ns Q (F0 m 340 ls []) := by
  subst hA0
  obtain ⟨hx, hb, hr, hml, hown, hts, hX, hbl, hlocks, hgv⟩ := id C0
  have hbA : ¬ LF s b := fun z => absurd hbl (Nat.not_lt.mpr z)
  obtain ⟨g, hg0, hg1, hg2, B, hgB⟩ := hn.2.2.1
  refine lv_aload_n hx hb dL_law_340 rfl (lv_at hl 3 rfl) ?_
  refine lv_aload_n hx hb dL_law_341 rfl (lv_at hl 4 rfl) ?_
  refine lv_iload hx hb dL_law_342 (lv_at hl 0 rfl) ?_
  refine lv_iconst (v := 1) hx hb dL_law_344 (by decide) ?_
  refine lv_iadd hx hb dL_law_345 ?_
  refine zz_top (v := nI (i + 1)) (nI_add i 1) ?_
  refine va_sld hx hb hX hbl hbA hS (i := nI (i + 1)) (vp_in_nI (by omega) (by omega)) dL_law_346 ?_
  refine lv_topi (fun v1 ev1 => ?_)
  refine lv_aload_n hx hb dL_law_347 rfl (lv_at hl 4 rfl) ?_
  refine lv_iload hx hb dL_law_348 (lv_at hl 0 rfl) ?_
  refine lv_iconst (v := 2) hx hb dL_law_350 (by decide) ?_
  refine lv_iadd hx hb dL_law_351 ?_
  refine zz_top (v := nI (i + 2)) (nI_add i 2) ?_
  refine va_sld hx hb hX hbl hbA hS (i := nI (i + 2)) (vp_in_nI (by omega) (by omega)) dL_law_352 ?_
  refine lv_topi (fun v2 ev2 => ?_)
  refine lv_aload_n hx hb dL_law_353 rfl (lv_at hl 1 rfl) ?_
  obtain ⟨gv, hgv⟩ := h.2.2.2.1
  refine va_calli (vx_runSW (As := [.ref (A 0), .int v1, .int v2, .ref o]) (rest := []) ⟨hx, hb, hml, hown, hts⟩ (l_L_person l hst dC dI ad E hEE hEE2 A C nb H.size h.1.1 st sl so o yo gv v1 v2 hn.1.1 h.1.2.2.2.2.2.2.1) (vx_cwSW 4 hts gT_L_person_45 rfl rfl rfl (by decide +kernel) ⟨Nat.le_of_ble_eq_true rfl, Nat.le_of_ble_eq_true rfl⟩) ⟨fun a U g mk q => ⟨q.1, lPre.blind hEE q.2⟩, fun U hU hW => ⟨rfl, lPre.of hEE h.2.1 hgv h.2.2.2.2.1 h.2.2.2.2.2.2 hE hS (h.fo hS) hU hW⟩⟩ rfl rfl hl.1 rfl (lv_room (Nat.le_of_ble_eq_true rfl)) dL_law_354 ⟨by omega, by omega⟩) hS (fun q _ z => h.fo hS q z) (h.fo hS) (fun r3 x4 t5 H6 locs ht hvm hwx hB hz1 hk1 hS => ?_)
  have h := h.cl (xB.at ht hB.1) (by rw [← ht]; exact hB.2) hk1
  clear hB hz1 hk1 ht hvm
  refine lv_istore (lv' := [(5, .int r3), (4, .int (nI i)), (3, .ref o), (2, .ref (ar 0)), (1, .ref (A 0)), (0, .ref b)]) hx hb dL_law_357 hl (by decide) rfl (fun ls hl => ?_)
  refine lv_aload_n hx hb dL_law_359 rfl (lv_at hl 3 rfl) ?_
  refine lv_aload_n hx hb dL_law_360 rfl (lv_at hl 5 rfl) ?_
  refine lv_iload hx hb dL_law_361 (lv_at hl 1 rfl) ?_
  refine lv_iconst (v := 1) hx hb dL_law_363 (by decide) ?_
  refine lv_iadd hx hb dL_law_364 ?_
  refine zz_top (v := nI (i + 1)) (nI_add i 1) ?_
  refine va_sld hx hb hX hbl hbA hS (i := nI (i + 1)) (vp_in_nI (by omega) (by omega)) dL_law_365 ?_
  refine lv_topi (fun v7 ev7 => ?_)
  refine lv_aload_n hx hb dL_law_366 rfl (lv_at hl 5 rfl) ?_
  refine lv_iload hx hb dL_law_367 (lv_at hl 1 rfl) ?_
  refine lv_iconst (v := 2) hx hb dL_law_369 (by decide) ?_
  refine lv_iadd hx hb dL_law_370 ?_
  refine zz_top (v := nI (i + 2)) (nI_add i 2) ?_
  refine va_sld hx hb hX hbl hbA hS (i := nI (i + 2)) (vp_in_nI (by omega) (by omega)) dL_law_371 ?_
  refine lv_topi (fun v8 ev8 => ?_)
  refine va_calli (va_runV (As := [.int v7, .int v8]) (rest := []) ⟨hx, hb, hml, hown, hts⟩ (m_person l dC dI ar cy H6.size h.1.2.1 st2 sl2 v7 v8 hn.2.1.1) (cwV 2 hts gT_X12_person_50 rfl rfl rfl (by decide +kernel) ⟨Nat.le_of_ble_eq_true rfl, Nat.le_of_ble_eq_true rfl⟩) ⟨fun a U g mk q => ⟨q.1, mPre.blind q.2⟩, va_recv h.2.2.2.2.2.1 h.2.2.1 (ci := 11) (q0 := 0) rfl rfl, fun U hU hW => ⟨rfl, mPre.of h.2.2.1 h.2.2.2.2.2.1 hU hW⟩⟩ rfl rfl hl.1 rfl (lv_room (Nat.le_of_ble_eq_true rfl)) dL_law_372 ⟨by omega, by omega⟩) hS (fun q _ z => h.fm hS q z) (h.fm hS) (fun r10 x11 t9 H12 locs ht hvm hwm hB hz1 hk1 hS => ?_)
  have h := h.cm (mB.at ht hB) hk1
  clear hB hz1 hk1 ht hvm
  refine lv_istore (lv' := [(6, .int r10), (5, .int r3), (4, .int (nI i)), (3, .ref o), (2, .ref (ar 0)), (1, .ref (A 0)), (0, .ref b)]) hx hb dL_law_375 hl (by decide) rfl (fun ls hl => ?_)
  refine lv_goto (tgt := 1393) hx hb dL_law_377 (by decide) ?_
  obtain ⟨hM, hQ, hmf⟩ := hwm
  have hG : XG [1, 2, 4, 5, 13, 14, 7, 15] st st := XG.rf hn.1.1
  refine W.widen (k := nc + 5) (n := ns + 170) (by omega) (by omega) ?_
  exact kk _ _ _ _ _ _ _ _ _ _ _ rfl h ⟨hn.1, ⟨hM.1, hn.2.1.2.1.mg hM (by decide), hn.2.1.2.2.1.mg hM (by decide), hn.2.1.2.2.2.mg hM (by decide)⟩, hn.ct hG hM (by decide) (by decide) (by decide) (by decide), ⟨hn.ck hG hM (by decide) (by decide), ⟨hn.2.2.2.2.1.ni NI.rf hM (by decide) (by decide) hQ (by decide) (by decide), hn.2.2.2.2.2.trans (hM.2 0 10 (by decide)).symm⟩⟩⟩ hS (lv_sub hl [2, 3, 4, 5, 6] rfl)
set_option maxHeartbeats 4000000 in
set_option maxRecDepth 100000 in
theorem lc_dog {p : Program} {e : Env} {s : State} {m : MethodId} {below : List Frame} {meth : Method} {c : Code} (l : Launch) {b L : Nat} {xs : Nat → Int32} (hL : L ≤ 3072) (C0 : lw_At p s m meth c b L xs) (dC : Nat → ClassId) (dI : Nat → Nat → Nat) (ad : Nat → Nat) (E : EP) (hEE : EC ad E) (hst : l.stackTraces = false) (hEE2 : ∀ A U H, E A U H → EX A U H) (hE : E (LF s) s s.heap) {A : Nat → Nat} {C : Nat → ClassId} {nb : Nat} {st : Nat → Nat → Int32} {sl : Nat → Nat → Int64} {so : Nat → XR} {ar : Nat → Nat} {cy : Nat → ClassId} {st2 : Nat → Nat → Int32} {sl2 : Nat → Nat → Int64} {a0 o : Nat} {yo : ClassId} {H : Heap} {locs : List Loc} {ls : Array Slot} (i : Nat) (hi : i + 6 ≤ L) (hA0 : A 0 = a0) (h : LH dC dI s H A C nb st sl so ar cy st2 sl2 o yo) (hn : LN ad nb st sl so st2 sl2) (hS : va_S (LF s) s.heap H locs) (hl : lv_has ls 8 [(4, .int (nI i)), (3, .ref o), (2, .ref (ar 0)), (1, .ref a0), (0, .ref b)]) {nc ns : Nat} (h1 : nc + 5 ≤ room_1.cells) (h2 : ns + 170 ≤ room_1.slots) {Q : State → Prop} (kk : LK p l e s m b below meth c dC dI ad ar cy a0 o yo i (nc + 5) (ns + 170) 1393 Q) : W p l e room_1 s m #[Value.ref b] below meth c H locs nc ns Q (F0 m 380 ls []) := by
  subst hA0
  obtain ⟨hx, hb, hr, hml, hown, hts, hX, hbl, hlocks, hgv⟩ := id C0
  have hbA : ¬ LF s b := fun z => absurd hbl (Nat.not_lt.mpr z)
  obtain ⟨g, hg0, hg1, hg2, B, hgB⟩ := hn.2.2.1
  refine lv_aload_n hx hb dL_law_380 rfl (lv_at hl 3 rfl) ?_
  refine lv_aload_n hx hb dL_law_381 rfl (lv_at hl 4 rfl) ?_
  refine lv_iload hx hb dL_law_382 (lv_at hl 0 rfl) ?_
  refine lv_iconst (v := 1) hx hb dL_law_384 (by decide) ?_
  refine lv_iadd hx hb dL_law_385 ?_
  refine zz_top (v := nI (i + 1)) (nI_add i 1) ?_
  refine va_sld hx hb hX hbl hbA hS (i := nI (i + 1)) (vp_in_nI (by omega) (by omega)) dL_law_386 ?_
  refine lv_topi (fun v1 ev1 => ?_)
  refine lv_aload_n hx hb dL_law_387 rfl (lv_at hl 4 rfl) ?_
  refine lv_iload hx hb dL_law_388 (lv_at hl 0 rfl) ?_
  refine lv_iconst (v := 2) hx hb dL_law_390 (by decide) ?_
  refine lv_iadd hx hb dL_law_391 ?_
  refine zz_top (v := nI (i + 2)) (nI_add i 2) ?_
  refine va_sld hx hb hX hbl hbA hS (i := nI (i + 2)) (vp_in_nI (by omega) (by omega)) dL_law_392 ?_
  refine lv_topi (fun v2 ev2 => ?_)
  refine lv_aload_n hx hb dL_law_393 rfl (lv_at hl 1 rfl) ?_
  obtain ⟨gv, hgv⟩ := h.2.2.2.1
  refine va_calli (vx_runSW (As := [.ref (A 0), .int v1, .int v2, .ref o]) (rest := []) ⟨hx, hb, hml, hown, hts⟩ (l_L_dog l hst dC dI ad E hEE hEE2 A C nb H.size h.1.1 st sl so o yo gv v1 v2 hn.1.1 h.1.2.2.2.2.2.2.1) (vx_cwSW 4 hts gT_L_dog_51 rfl rfl rfl (by decide +kernel) ⟨Nat.le_of_ble_eq_true rfl, Nat.le_of_ble_eq_true rfl⟩) ⟨fun a U g mk q => ⟨q.1, lPre.blind hEE q.2⟩, fun U hU hW => ⟨rfl, lPre.of hEE h.2.1 hgv h.2.2.2.2.1 h.2.2.2.2.2.2 hE hS (h.fo hS) hU hW⟩⟩ rfl rfl hl.1 rfl (lv_room (Nat.le_of_ble_eq_true rfl)) dL_law_394 ⟨by omega, by omega⟩) hS (fun q _ z => h.fo hS q z) (h.fo hS) (fun r3 x4 t5 H6 locs ht hvm hwx hB hz1 hk1 hS => ?_)
  have h := h.cl (xB.at ht hB.1) (by rw [← ht]; exact hB.2) hk1
  clear hB hz1 hk1 ht hvm
  refine lv_istore (lv' := [(5, .int r3), (4, .int (nI i)), (3, .ref o), (2, .ref (ar 0)), (1, .ref (A 0)), (0, .ref b)]) hx hb dL_law_397 hl (by decide) rfl (fun ls hl => ?_)
  refine lv_aload_n hx hb dL_law_399 rfl (lv_at hl 3 rfl) ?_
  refine lv_aload_n hx hb dL_law_400 rfl (lv_at hl 5 rfl) ?_
  refine lv_iload hx hb dL_law_401 (lv_at hl 1 rfl) ?_
  refine lv_iconst (v := 1) hx hb dL_law_403 (by decide) ?_
  refine lv_iadd hx hb dL_law_404 ?_
  refine zz_top (v := nI (i + 1)) (nI_add i 1) ?_
  refine va_sld hx hb hX hbl hbA hS (i := nI (i + 1)) (vp_in_nI (by omega) (by omega)) dL_law_405 ?_
  refine lv_topi (fun v7 ev7 => ?_)
  refine lv_aload_n hx hb dL_law_406 rfl (lv_at hl 5 rfl) ?_
  refine lv_iload hx hb dL_law_407 (lv_at hl 1 rfl) ?_
  refine lv_iconst (v := 2) hx hb dL_law_409 (by decide) ?_
  refine lv_iadd hx hb dL_law_410 ?_
  refine zz_top (v := nI (i + 2)) (nI_add i 2) ?_
  refine va_sld hx hb hX hbl hbA hS (i := nI (i + 2)) (vp_in_nI (by omega) (by omega)) dL_law_411 ?_
  refine lv_topi (fun v8 ev8 => ?_)
  refine va_calli (va_runV (As := [.int v7, .int v8]) (rest := []) ⟨hx, hb, hml, hown, hts⟩ (m_dog l dC dI ar cy H6.size h.1.2.1 st2 sl2 v7 v8 hn.2.1.1) (cwV 2 hts gT_X12_dog_53 rfl rfl rfl (by decide +kernel) ⟨Nat.le_of_ble_eq_true rfl, Nat.le_of_ble_eq_true rfl⟩) ⟨fun a U g mk q => ⟨q.1, mPre.blind q.2⟩, va_recv h.2.2.2.2.2.1 h.2.2.1 (ci := 11) (q0 := 0) rfl rfl, fun U hU hW => ⟨rfl, mPre.of h.2.2.1 h.2.2.2.2.2.1 hU hW⟩⟩ rfl rfl hl.1 rfl (lv_room (Nat.le_of_ble_eq_true rfl)) dL_law_412 ⟨by omega, by omega⟩) hS (fun q _ z => h.fm hS q z) (h.fm hS) (fun r10 x11 t9 H12 locs ht hvm hwm hB hz1 hk1 hS => ?_)
  have h := h.cm (mB.at ht hB) hk1
  clear hB hz1 hk1 ht hvm
  refine lv_istore (lv' := [(6, .int r10), (5, .int r3), (4, .int (nI i)), (3, .ref o), (2, .ref (ar 0)), (1, .ref (A 0)), (0, .ref b)]) hx hb dL_law_415 hl (by decide) rfl (fun ls hl => ?_)
  refine lv_goto (tgt := 1393) hx hb dL_law_417 (by decide) ?_
  obtain ⟨hM, hQ, hmf⟩ := hwm
  have hG : XG [1, 2, 4, 5, 13, 14, 7, 15] st st := XG.rf hn.1.1
  refine W.widen (k := nc + 5) (n := ns + 170) (by omega) (by omega) ?_
  exact kk _ _ _ _ _ _ _ _ _ _ _ rfl h ⟨hn.1, ⟨hM.1, hn.2.1.2.1.mg hM (by decide), hn.2.1.2.2.1.mg hM (by decide), hn.2.1.2.2.2.mg hM (by decide)⟩, hn.ct hG hM (by decide) (by decide) (by decide) (by decide), ⟨hn.ck hG hM (by decide) (by decide), ⟨hn.2.2.2.2.1.ni NI.rf hM (by decide) (by decide) hQ (by decide) (by decide), hn.2.2.2.2.2.trans (hM.2 0 10 (by decide)).symm⟩⟩⟩ hS (lv_sub hl [2, 3, 4, 5, 6] rfl)
set_option maxHeartbeats 4000000 in
set_option maxRecDepth 100000 in
theorem lc_place {p : Program} {e : Env} {s : State} {m : MethodId} {below : List Frame} {meth : Method} {c : Code} (l : Launch) {b L : Nat} {xs : Nat → Int32} (hL : L ≤ 3072) (C0 : lw_At p s m meth c b L xs) (dC : Nat → ClassId) (dI : Nat → Nat → Nat) (ad : Nat → Nat) (E : EP) (hEE : EC ad E) (hE : E (LF s) s s.heap) {A : Nat → Nat} {C : Nat → ClassId} {nb : Nat} {st : Nat → Nat → Int32} {sl : Nat → Nat → Int64} {so : Nat → XR} {ar : Nat → Nat} {cy : Nat → ClassId} {st2 : Nat → Nat → Int32} {sl2 : Nat → Nat → Int64} {a0 o : Nat} {yo : ClassId} {H : Heap} {locs : List Loc} {ls : Array Slot} (i : Nat) (hi : i + 6 ≤ L) (hA0 : A 0 = a0) (h : LH dC dI s H A C nb st sl so ar cy st2 sl2 o yo) (hn : LN ad nb st sl so st2 sl2) (hS : va_S (LF s) s.heap H locs) (hl : lv_has ls 8 [(4, .int (nI i)), (3, .ref o), (2, .ref (ar 0)), (1, .ref a0), (0, .ref b)]) {nc ns : Nat} (h1 : nc + 5 ≤ room_1.cells) (h2 : ns + 170 ≤ room_1.slots) {Q : State → Prop} (kk : LK p l e s m b below meth c dC dI ad ar cy a0 o yo i (nc + 5) (ns + 170) 1393 Q) : W p l e room_1 s m #[Value.ref b] below meth c H locs nc ns Q (F0 m 420 ls []) := by
  subst hA0
  obtain ⟨hx, hb, hr, hml, hown, hts, hX, hbl, hlocks, hgv⟩ := id C0
  have hbA : ¬ LF s b := fun z => absurd hbl (Nat.not_lt.mpr z)
  obtain ⟨g, hg0, hg1, hg2, B, hgB⟩ := hn.2.2.1
  refine lv_aload_n hx hb dL_law_420 rfl (lv_at hl 3 rfl) ?_
  refine lv_aload_n hx hb dL_law_421 rfl (lv_at hl 4 rfl) ?_
  refine lv_iload hx hb dL_law_422 (lv_at hl 0 rfl) ?_
  refine lv_iconst (v := 1) hx hb dL_law_424 (by decide) ?_
  refine lv_iadd hx hb dL_law_425 ?_
  refine zz_top (v := nI (i + 1)) (nI_add i 1) ?_
  refine va_sld hx hb hX hbl hbA hS (i := nI (i + 1)) (vp_in_nI (by omega) (by omega)) dL_law_426 ?_
  refine lv_topi (fun v1 ev1 => ?_)
  refine lv_aload_n hx hb dL_law_427 rfl (lv_at hl 4 rfl) ?_
  refine lv_iload hx hb dL_law_428 (lv_at hl 0 rfl) ?_
  refine lv_iconst (v := 2) hx hb dL_law_430 (by decide) ?_
  refine lv_iadd hx hb dL_law_431 ?_
  refine zz_top (v := nI (i + 2)) (nI_add i 2) ?_
  refine va_sld hx hb hX hbl hbA hS (i := nI (i + 2)) (vp_in_nI (by omega) (by omega)) dL_law_432 ?_
  refine lv_topi (fun v2 ev2 => ?_)
  refine va_calli (va_runV (As := [.int v1, .int v2]) (rest := []) ⟨hx, hb, hml, hown, hts⟩ (x_X11_place l dC dI ad E hEE A C nb H.size h.1.1 st sl so v1 v2 hn.1.1) (cwV 2 hts gT_X11_place_54 rfl rfl rfl (by decide +kernel) ⟨Nat.le_of_ble_eq_true rfl, Nat.le_of_ble_eq_true rfl⟩) ⟨fun a U g mk q => ⟨q.1, xPre.blind hEE q.2⟩, va_recv h.2.2.2.2.1 h.2.1 (ci := 10) (q0 := 0) rfl (xw_is (r := 0) (by omega) (xc_fix (r := 0) (by omega))), fun U hU hW => ⟨rfl, xPre.ofg hEE h.2.1 h.2.2.2.2.1 hE hS (h.fx hS) hU hW⟩⟩ rfl rfl hl.1 rfl (lv_room (Nat.le_of_ble_eq_true rfl)) dL_law_433 ⟨by omega, by omega⟩) hS (fun q _ z => h.fx hS q z) (h.fx hS) (fun r4 x5 t3 H6 locs ht hvm hwx hB hz1 hk1 hS => ?_)
  have h := h.cx (xB.at ht hB) hk1
  clear hB hz1 hk1 ht hvm
  refine lv_pop hx hb dL_law_436 rfl ?_
  refine lv_aload_n hx hb dL_law_437 rfl (lv_at hl 2 rfl) ?_
  refine lv_aload_n hx hb dL_law_438 rfl (lv_at hl 4 rfl) ?_
  refine lv_iload hx hb dL_law_439 (lv_at hl 0 rfl) ?_
  refine lv_iconst (v := 1) hx hb dL_law_441 (by decide) ?_
  refine lv_iadd hx hb dL_law_442 ?_
  refine zz_top (v := nI (i + 1)) (nI_add i 1) ?_
  refine va_sld hx hb hX hbl hbA hS (i := nI (i + 1)) (vp_in_nI (by omega) (by omega)) dL_law_443 ?_
  refine lv_topi (fun v7 ev7 => ?_)
  refine lv_aload_n hx hb dL_law_444 rfl (lv_at hl 4 rfl) ?_
  refine lv_iload hx hb dL_law_445 (lv_at hl 0 rfl) ?_
  refine lv_iconst (v := 2) hx hb dL_law_447 (by decide) ?_
  refine lv_iadd hx hb dL_law_448 ?_
  refine zz_top (v := nI (i + 2)) (nI_add i 2) ?_
  refine va_sld hx hb hX hbl hbA hS (i := nI (i + 2)) (vp_in_nI (by omega) (by omega)) dL_law_449 ?_
  refine lv_topi (fun v8 ev8 => ?_)
  refine va_calli (va_runV (As := [.int v7, .int v8]) (rest := []) ⟨hx, hb, hml, hown, hts⟩ (m_place l dC dI ar cy H6.size h.1.2.1 st2 sl2 v7 v8 hn.2.1.1) (cwV 2 hts gT_X12_place_57 rfl rfl rfl (by decide +kernel) ⟨Nat.le_of_ble_eq_true rfl, Nat.le_of_ble_eq_true rfl⟩) ⟨fun a U g mk q => ⟨q.1, mPre.blind q.2⟩, va_recv h.2.2.2.2.2.1 h.2.2.1 (ci := 11) (q0 := 0) rfl rfl, fun U hU hW => ⟨rfl, mPre.of h.2.2.1 h.2.2.2.2.2.1 hU hW⟩⟩ rfl rfl hl.1 rfl (lv_room (Nat.le_of_ble_eq_true rfl)) dL_law_450 ⟨by omega, by omega⟩) hS (fun q _ z => h.fm hS q z) (h.fm hS) (fun r10 x11 t9 H12 locs ht hvm hwm hB hz1 hk1 hS => ?_)
  have h := h.cm (mB.at ht hB) hk1
  clear hB hz1 hk1 ht hvm
  refine lv_pop hx hb dL_law_453 rfl ?_
  refine lv_goto (tgt := 1393) hx hb dL_law_454 (by decide) ?_
  obtain ⟨hM, hQ, hmf⟩ := hwm
  obtain ⟨hG, hLx, hso, hxf⟩ := hwx
  refine W.widen (k := nc + 5) (n := ns + 170) (by omega) (by omega) ?_
  exact kk _ _ _ _ _ _ _ _ _ _ _ rfl h ⟨⟨hG.1, by rw [hso]; exact hn.1.2.1, hn.1.2.2.1.mg hG (by decide), by rw [hso]; exact hn.1.2.2.2.mgs hG (by decide) (by decide)⟩, ⟨hM.1, hn.2.1.2.1.mg hM (by decide), hn.2.1.2.2.1.mg hM (by decide), hn.2.1.2.2.2.mg hM (by decide)⟩, hn.ct hG hM (by decide) (by decide) (by decide) (by decide), ⟨hn.ck hG hM (by decide) (by decide), ⟨hn.2.2.2.2.1.ni (NI.rf.mg hG (by decide) (by decide) hLx) hM (by decide) (by decide) hQ (by decide) (by decide), ((hG.2 0 16 (by decide)).trans hn.2.2.2.2.2).trans (hM.2 0 10 (by decide)).symm⟩⟩⟩ hS hl
set_option maxHeartbeats 4000000 in
set_option maxRecDepth 100000 in
theorem lc_now {p : Program} {e : Env} {s : State} {m : MethodId} {below : List Frame} {meth : Method} {c : Code} (l : Launch) {b L : Nat} {xs : Nat → Int32} (hL : L ≤ 3072) (C0 : lw_At p s m meth c b L xs) (dC : Nat → ClassId) (dI : Nat → Nat → Nat) (ad : Nat → Nat) (E : EP) (hEE : EC ad E) (hE : E (LF s) s s.heap) {A : Nat → Nat} {C : Nat → ClassId} {nb : Nat} {st : Nat → Nat → Int32} {sl : Nat → Nat → Int64} {so : Nat → XR} {ar : Nat → Nat} {cy : Nat → ClassId} {st2 : Nat → Nat → Int32} {sl2 : Nat → Nat → Int64} {a0 o : Nat} {yo : ClassId} {H : Heap} {locs : List Loc} {ls : Array Slot} (i : Nat) (hi : i + 6 ≤ L) (hA0 : A 0 = a0) (h : LH dC dI s H A C nb st sl so ar cy st2 sl2 o yo) (hn : LN ad nb st sl so st2 sl2) (hS : va_S (LF s) s.heap H locs) (hl : lv_has ls 8 [(4, .int (nI i)), (3, .ref o), (2, .ref (ar 0)), (1, .ref a0), (0, .ref b)]) {nc ns : Nat} (h1 : nc + 5 ≤ room_1.cells) (h2 : ns + 170 ≤ room_1.slots) {Q : State → Prop} (kk : LK p l e s m b below meth c dC dI ad ar cy a0 o yo i (nc + 5) (ns + 170) 1393 Q) : W p l e room_1 s m #[Value.ref b] below meth c H locs nc ns Q (F0 m 457 ls []) := by
  subst hA0
  obtain ⟨hx, hb, hr, hml, hown, hts, hX, hbl, hlocks, hgv⟩ := id C0
  have hbA : ¬ LF s b := fun z => absurd hbl (Nat.not_lt.mpr z)
  obtain ⟨g, hg0, hg1, hg2, B, hgB⟩ := hn.2.2.1
  refine lv_aload_n hx hb dL_law_457 rfl (lv_at hl 3 rfl) ?_
  refine lv_aload_n hx hb dL_law_458 rfl (lv_at hl 4 rfl) ?_
  refine lv_iload hx hb dL_law_459 (lv_at hl 0 rfl) ?_
  refine lv_iconst (v := 1) hx hb dL_law_461 (by decide) ?_
  refine lv_iadd hx hb dL_law_462 ?_
  refine zz_top (v := nI (i + 1)) (nI_add i 1) ?_
  refine va_sld hx hb hX hbl hbA hS (i := nI (i + 1)) (vp_in_nI (by omega) (by omega)) dL_law_463 ?_
  refine lv_topi (fun v1 ev1 => ?_)
  refine va_calli (va_runV (As := [.int v1]) (rest := []) ⟨hx, hb, hml, hown, hts⟩ (x_X11_now l dC dI ad E hEE A C nb H.size h.1.1 st sl so v1 hn.1.1) (cwV 1 hts gT_X11_now_58 rfl rfl rfl (by decide +kernel) ⟨Nat.le_of_ble_eq_true rfl, Nat.le_of_ble_eq_true rfl⟩) ⟨fun a U g mk q => ⟨q.1, xPre.blind hEE q.2⟩, va_recv h.2.2.2.2.1 h.2.1 (ci := 10) (q0 := 0) rfl (xw_is (r := 0) (by omega) (xc_fix (r := 0) (by omega))), fun U hU hW => ⟨rfl, xPre.ofg hEE h.2.1 h.2.2.2.2.1 hE hS (h.fx hS) hU hW⟩⟩ rfl rfl hl.1 rfl (lv_room (Nat.le_of_ble_eq_true rfl)) dL_law_464 ⟨by omega, by omega⟩) hS (fun q _ z => h.fx hS q z) (h.fx hS) (fun r3 x4 t2 H5 locs ht hvm hwx hB hz1 hk1 hS => ?_)
  have h := h.cx (xB.at ht hB) hk1
  clear hB hz1 hk1 ht hvm
  refine lv_pop hx hb dL_law_467 rfl ?_
  refine lv_aload_n hx hb dL_law_468 rfl (lv_at hl 2 rfl) ?_
  refine lv_aload_n hx hb dL_law_469 rfl (lv_at hl 4 rfl) ?_
  refine lv_iload hx hb dL_law_470 (lv_at hl 0 rfl) ?_
  refine lv_iconst (v := 1) hx hb dL_law_472 (by decide) ?_
  refine lv_iadd hx hb dL_law_473 ?_
  refine zz_top (v := nI (i + 1)) (nI_add i 1) ?_
  refine va_sld hx hb hX hbl hbA hS (i := nI (i + 1)) (vp_in_nI (by omega) (by omega)) dL_law_474 ?_
  refine lv_topi (fun v6 ev6 => ?_)
  refine va_calli (va_runV (As := [.int v6]) (rest := []) ⟨hx, hb, hml, hown, hts⟩ (m_now l dC dI ar cy H5.size h.1.2.1 st2 sl2 v6 hn.2.1.1) (cwV 1 hts gT_X12_now_62 rfl rfl rfl (by decide +kernel) ⟨Nat.le_of_ble_eq_true rfl, Nat.le_of_ble_eq_true rfl⟩) ⟨fun a U g mk q => ⟨q.1, mPre.blind q.2⟩, va_recv h.2.2.2.2.2.1 h.2.2.1 (ci := 11) (q0 := 0) rfl rfl, fun U hU hW => ⟨rfl, mPre.of h.2.2.1 h.2.2.2.2.2.1 hU hW⟩⟩ rfl rfl hl.1 rfl (lv_room (Nat.le_of_ble_eq_true rfl)) dL_law_475 ⟨by omega, by omega⟩) hS (fun q _ z => h.fm hS q z) (h.fm hS) (fun r8 x9 t7 H10 locs ht hvm hwm hB hz1 hk1 hS => ?_)
  have h := h.cm (mB.at ht hB) hk1
  clear hB hz1 hk1 ht hvm
  refine lv_pop hx hb dL_law_478 rfl ?_
  refine lv_goto (tgt := 1393) hx hb dL_law_479 (by decide) ?_
  obtain ⟨hM, hQ, hmf⟩ := hwm
  obtain ⟨hG, hLx, hso, hxf⟩ := hwx
  refine W.widen (k := nc + 5) (n := ns + 170) (by omega) (by omega) ?_
  exact kk _ _ _ _ _ _ _ _ _ _ _ rfl h ⟨⟨hG.1, by rw [hso]; exact hn.1.2.1, hn.1.2.2.1.mg hG (by decide), by rw [hso]; exact hn.1.2.2.2.mgs hG (by decide) (by decide)⟩, ⟨hM.1, hn.2.1.2.1.mg hM (by decide), hn.2.1.2.2.1.mg hM (by decide), hn.2.1.2.2.2.mg hM (by decide)⟩, hn.ct hG hM (by decide) (by decide) (by decide) (by decide), ⟨hn.ck hG hM (by decide) (by decide), ⟨hn.2.2.2.2.1.ni (NI.rf.mg hG (by decide) (by decide) hLx) hM (by decide) (by decide) hQ (by decide) (by decide), ((hG.2 0 16 (by decide)).trans hn.2.2.2.2.2).trans (hM.2 0 10 (by decide)).symm⟩⟩⟩ hS hl
