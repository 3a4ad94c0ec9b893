set_option maxHeartbeats 4000000 in
set_option maxRecDepth 100000 in
theorem lc_odds {p : Program} {e : Env} {s : State} {m : MethodId} {below : List Frame} {meth : Method} {c : Code} (l : Launch) {b L : Nat} {xs : Nat → Int32} (hL : L ≤ 3072) (C0 : lw_At p s m meth c b L xs) (dC : Nat → ClassId) (dI : Nat → Nat → Nat) (ad : Nat → Nat) (E : EP) (hEE : EC ad E) (hE : E (LF s) s s.heap) {A : Nat → Nat} {C : Nat → ClassId} {nb : Nat} {st : Nat → Nat → Int32} {sl : Nat → Nat → Int64} {so : Nat → XR} {ar : Nat → Nat} {cy : Nat → ClassId} {st2 : Nat → Nat → Int32} {sl2 : Nat → Nat → Int64} {a0 o : Nat} {yo : ClassId} {H : Heap} {locs : List Loc} {ls : Array Slot} (i : Nat) (hi : i + 6 ≤ L) (hA0 : A 0 = a0) (h : LH dC dI s H A C nb st sl so ar cy st2 sl2 o yo) (hn : LN ad nb st sl so st2 sl2) (hS : va_S (LF s) s.heap H locs) (hl : lv_has ls 8 [(4, .int (nI i)), (3, .ref o), (2, .ref (ar 0)), (1, .ref a0), (0, .ref b)]) {nc ns : Nat} (h1 : nc + 5 ≤ room_1.cells) (h2 : ns + 170 ≤ room_1.slots) {Q : State → Prop} (kk : LK p l e s m b below meth c dC dI ad ar cy a0 o yo i (nc + 5) (ns + 170) 1393 Q) : W p l e room_1 s m #[Value.ref b] below meth c H locs nc ns Q (F0 m 1181 ls []) := by
  subst hA0
  obtain ⟨hx, hb, hr, hml, hown, hts, hX, hbl, hlocks, hgv⟩ := id C0
  have hbA : ¬ LF s b := fun z => absurd hbl (Nat.not_lt.mpr z)
  obtain ⟨g, hg0, hg1, hg2, B, hgB⟩ := hn.2.2.1
  refine lv_aload_n hx hb dL_law_1181 rfl (lv_at hl 3 rfl) ?_
  refine lv_aload_n hx hb dL_law_1182 rfl (lv_at hl 4 rfl) ?_
  refine lv_iload hx hb dL_law_1183 (lv_at hl 0 rfl) ?_
  refine lv_iconst (v := 1) hx hb dL_law_1185 (by decide) ?_
  refine lv_iadd hx hb dL_law_1186 ?_
  refine zz_top (v := nI (i + 1)) (nI_add i 1) ?_
  refine va_sld hx hb hX hbl hbA hS (i := nI (i + 1)) (vp_in_nI (by omega) (by omega)) dL_law_1187 ?_
  refine lv_topi (fun v1 ev1 => ?_)
  refine lv_aload_n hx hb dL_law_1188 rfl (lv_at hl 4 rfl) ?_
  refine lv_iload hx hb dL_law_1189 (lv_at hl 0 rfl) ?_
  refine lv_iconst (v := 2) hx hb dL_law_1191 (by decide) ?_
  refine lv_iadd hx hb dL_law_1192 ?_
  refine zz_top (v := nI (i + 2)) (nI_add i 2) ?_
  refine va_sld hx hb hX hbl hbA hS (i := nI (i + 2)) (vp_in_nI (by omega) (by omega)) dL_law_1193 ?_
  refine lv_topi (fun v2 ev2 => ?_)
  refine lv_aload_n hx hb dL_law_1194 rfl (lv_at hl 4 rfl) ?_
  refine lv_iload hx hb dL_law_1195 (lv_at hl 0 rfl) ?_
  refine lv_iconst (v := 3) hx hb dL_law_1197 (by decide) ?_
  refine lv_iadd hx hb dL_law_1198 ?_
  refine zz_top (v := nI (i + 3)) (nI_add i 3) ?_
  refine va_sld hx hb hX hbl hbA hS (i := nI (i + 3)) (vp_in_nI (by omega) (by omega)) dL_law_1199 ?_
  refine lv_topi (fun v3 ev3 => ?_)
  refine va_calli (va_runV (As := [.int v1, .int v2, .int v3]) (rest := []) ⟨hx, hb, hml, hown, hts⟩ (x_X11_odds l dC dI ad E hEE A C nb H.size h.1.1 st sl so v1 v2 v3 hn.1.1) (cwV 3 hts gT_X11_odds_160 rfl rfl rfl (by decide +kernel) ⟨Nat.le_of_ble_eq_true rfl, Nat.le_of_ble_eq_true rfl⟩) ⟨fun a U g mk q => ⟨q.1, xPre.blind hEE q.2⟩, va_recv h.2.2.2.2.1 h.2.1 (ci := 10) (q0 := 0) rfl (xw_is (r := 0) (by omega) (xc_fix (r := 0) (by omega))), fun U hU hW => ⟨rfl, xPre.ofg hEE h.2.1 h.2.2.2.2.1 hE hS (h.fx hS) hU hW⟩⟩ rfl rfl hl.1 rfl (lv_room (Nat.le_of_ble_eq_true rfl)) dL_law_1200 ⟨by omega, by omega⟩) hS (fun q _ z => h.fx hS q z) (h.fx hS) (fun r5 x6 t4 H7 locs ht hvm hwx hB hz1 hk1 hS => ?_)
  have h := h.cx (xB.at ht hB) hk1
  clear hB hz1 hk1 ht hvm
  refine lv_pop hx hb dL_law_1203 rfl ?_
  refine lv_aload_n hx hb dL_law_1204 rfl (lv_at hl 2 rfl) ?_
  refine lv_aload_n hx hb dL_law_1205 rfl (lv_at hl 4 rfl) ?_
  refine lv_iload hx hb dL_law_1206 (lv_at hl 0 rfl) ?_
  refine lv_iconst (v := 1) hx hb dL_law_1208 (by decide) ?_
  refine lv_iadd hx hb dL_law_1209 ?_
  refine zz_top (v := nI (i + 1)) (nI_add i 1) ?_
  refine va_sld hx hb hX hbl hbA hS (i := nI (i + 1)) (vp_in_nI (by omega) (by omega)) dL_law_1210 ?_
  refine lv_topi (fun v8 ev8 => ?_)
  refine lv_aload_n hx hb dL_law_1211 rfl (lv_at hl 4 rfl) ?_
  refine lv_iload hx hb dL_law_1212 (lv_at hl 0 rfl) ?_
  refine lv_iconst (v := 2) hx hb dL_law_1214 (by decide) ?_
  refine lv_iadd hx hb dL_law_1215 ?_
  refine zz_top (v := nI (i + 2)) (nI_add i 2) ?_
  refine va_sld hx hb hX hbl hbA hS (i := nI (i + 2)) (vp_in_nI (by omega) (by omega)) dL_law_1216 ?_
  refine lv_topi (fun v9 ev9 => ?_)
  refine lv_aload_n hx hb dL_law_1217 rfl (lv_at hl 4 rfl) ?_
  refine lv_iload hx hb dL_law_1218 (lv_at hl 0 rfl) ?_
  refine lv_iconst (v := 3) hx hb dL_law_1220 (by decide) ?_
  refine lv_iadd hx hb dL_law_1221 ?_
  refine zz_top (v := nI (i + 3)) (nI_add i 3) ?_
  refine va_sld hx hb hX hbl hbA hS (i := nI (i + 3)) (vp_in_nI (by omega) (by omega)) dL_law_1222 ?_
  refine lv_topi (fun v10 ev10 => ?_)
  refine va_calli (va_runV (As := [.int v8, .int v9, .int v10]) (rest := []) ⟨hx, hb, hml, hown, hts⟩ (m_odds l dC dI ar cy H7.size h.1.2.1 st2 sl2 v8 v9 v10 hn.2.1.1) (cwV 3 hts gT_X12_odds_163 rfl rfl rfl (by decide +kernel) ⟨Nat.le_of_ble_eq_true rfl, Nat.le_of_ble_eq_true rfl⟩) ⟨fun a U g mk q => ⟨q.1, mPre.blind q.2⟩, va_recv h.2.2.2.2.2.1 h.2.2.1 (ci := 11) (q0 := 0) rfl rfl, fun U hU hW => ⟨rfl, mPre.of h.2.2.1 h.2.2.2.2.2.1 hU hW⟩⟩ rfl rfl hl.1 rfl (lv_room (Nat.le_of_ble_eq_true rfl)) dL_law_1223 ⟨by omega, by omega⟩) hS (fun q _ z => h.fm hS q z) (h.fm hS) (fun r12 x13 t11 H14 locs ht hvm hwm hB hz1 hk1 hS => ?_)
  have h := h.cm (mB.at ht hB) hk1
  clear hB hz1 hk1 ht hvm
  refine lv_pop hx hb dL_law_1226 rfl ?_
  refine lv_goto (tgt := 1393) hx hb dL_law_1227 (by decide) ?_
  obtain ⟨hM, hQ, hmf⟩ := hwm
  obtain ⟨hG, hso, hxf⟩ := hwx
  refine W.widen (k := nc + 5) (n := ns + 170) (by omega) (by omega) ?_
  exact kk _ _ _ _ _ _ _ _ _ _ _ rfl h ⟨⟨hG.1, by rw [hso]; exact hn.1.2.1, hn.1.2.2.1.mg hG (by decide), by rw [hso]; exact hn.1.2.2.2.mgs hG (by decide) (by decide)⟩, ⟨hM.1, hn.2.1.2.1.mg hM (by decide), hn.2.1.2.2.1.mg hM (by decide), hn.2.1.2.2.2.mg hM (by decide)⟩, hn.ct hG hM (by decide) (by decide) (by decide) (by decide), ⟨hn.ck hG hM (by decide) (by decide), ⟨hn.2.2.2.2.1.ni hxf hM (by decide) (by decide) hQ (by decide) (by decide), ((hG.2 0 16 (by decide)).trans hn.2.2.2.2.2).trans (hM.2 0 10 (by decide)).symm⟩⟩⟩ hS hl
set_option maxHeartbeats 4000000 in
set_option maxRecDepth 100000 in
theorem lc_book {p : Program} {e : Env} {s : State} {m : MethodId} {below : List Frame} {meth : Method} {c : Code} (l : Launch) {b L : Nat} {xs : Nat → Int32} (hL : L ≤ 3072) (C0 : lw_At p s m meth c b L xs) (dC : Nat → ClassId) (dI : Nat → Nat → Nat) (ad : Nat → Nat) (E : EP) (hEE : EC ad E) (hE : E (LF s) s s.heap) {A : Nat → Nat} {C : Nat → ClassId} {nb : Nat} {st : Nat → Nat → Int32} {sl : Nat → Nat → Int64} {so : Nat → XR} {ar : Nat → Nat} {cy : Nat → ClassId} {st2 : Nat → Nat → Int32} {sl2 : Nat → Nat → Int64} {a0 o : Nat} {yo : ClassId} {H : Heap} {locs : List Loc} {ls : Array Slot} (i : Nat) (hi : i + 6 ≤ L) (hA0 : A 0 = a0) (h : LH dC dI s H A C nb st sl so ar cy st2 sl2 o yo) (hn : LN ad nb st sl so st2 sl2) (hS : va_S (LF s) s.heap H locs) (hl : lv_has ls 8 [(4, .int (nI i)), (3, .ref o), (2, .ref (ar 0)), (1, .ref a0), (0, .ref b)]) {nc ns : Nat} (h1 : nc + 5 ≤ room_1.cells) (h2 : ns + 170 ≤ room_1.slots) {Q : State → Prop} (kk : LK p l e s m b below meth c dC dI ad ar cy a0 o yo i (nc + 5) (ns + 170) 1393 Q) : W p l e room_1 s m #[Value.ref b] below meth c H locs nc ns Q (F0 m 1230 ls []) := by
  subst hA0
  obtain ⟨hx, hb, hr, hml, hown, hts, hX, hbl, hlocks, hgv⟩ := id C0
  have hbA : ¬ LF s b := fun z => absurd hbl (Nat.not_lt.mpr z)
  obtain ⟨g, hg0, hg1, hg2, B, hgB⟩ := hn.2.2.1
  refine lv_aload_n hx hb dL_law_1230 rfl (lv_at hl 3 rfl) ?_
  refine lv_aload_n hx hb dL_law_1231 rfl (lv_at hl 4 rfl) ?_
  refine lv_iload hx hb dL_law_1232 (lv_at hl 0 rfl) ?_
  refine lv_iconst (v := 1) hx hb dL_law_1234 (by decide) ?_
  refine lv_iadd hx hb dL_law_1235 ?_
  refine zz_top (v := nI (i + 1)) (nI_add i 1) ?_
  refine va_sld hx hb hX hbl hbA hS (i := nI (i + 1)) (vp_in_nI (by omega) (by omega)) dL_law_1236 ?_
  refine lv_topi (fun v1 ev1 => ?_)
  obtain ⟨c9, n9, hcn9, hrn9⟩ := hn.2.2.2.2.1.2.1
  refine va_calli (va_runV (As := [.int v1]) (rest := []) ⟨hx, hb, hml, hown, hts⟩ (x_X11_bookF l dC dI ad E hEE A C nb H.size h.1.1 st sl so v1 B g c9 n9 hn.1.1 hn.1.2.1 hg1 hg0 (fun j hj => ⟨(hgB j hj).1, (hgB j hj).2.2⟩) hcn9) (cwV 1 hts gT_X11_book_164 rfl rfl rfl (by decide +kernel) ⟨Nat.le_of_ble_eq_true rfl, Nat.le_of_ble_eq_true rfl⟩) ⟨fun a U g mk q => ⟨q.1, xPre.blind hEE q.2⟩, va_recv h.2.2.2.2.1 h.2.1 (ci := 10) (q0 := 0) rfl (xw_is (r := 0) (by omega) (xc_fix (r := 0) (by omega))), fun U hU hW => ⟨rfl, xPre.ofg hEE h.2.1 h.2.2.2.2.1 hE hS (h.fx hS) hU hW⟩⟩ rfl rfl hl.1 rfl (lv_room (Nat.le_of_ble_eq_true rfl)) dL_law_1237 ⟨by omega, by omega⟩) hS (fun q _ z => h.fx hS q z) (h.fx hS) (fun r3 x4 t2 H5 locs ht hvm hwx hB hz1 hk1 hS => ?_)
  have h := h.cx (xB.at ht hB) hk1
  clear hB hz1 hk1 ht hvm
  refine lv_pop hx hb dL_law_1240 rfl ?_
  refine lv_aload_n hx hb dL_law_1241 rfl (lv_at hl 2 rfl) ?_
  refine lv_aload_n hx hb dL_law_1242 rfl (lv_at hl 4 rfl) ?_
  refine lv_iload hx hb dL_law_1243 (lv_at hl 0 rfl) ?_
  refine lv_iconst (v := 1) hx hb dL_law_1245 (by decide) ?_
  refine lv_iadd hx hb dL_law_1246 ?_
  refine zz_top (v := nI (i + 1)) (nI_add i 1) ?_
  refine va_sld hx hb hX hbl hbA hS (i := nI (i + 1)) (vp_in_nI (by omega) (by omega)) dL_law_1247 ?_
  refine lv_topi (fun v6 ev6 => ?_)
  refine va_calli (va_runV (As := [.int v6]) (rest := []) ⟨hx, hb, hml, hown, hts⟩ (m_bookB l dC dI ar cy H5.size h.1.2.1 st2 sl2 v6 B g c9 n9 hn.2.1.1 hg2 hg0 (fun j hj => ⟨(hgB j hj).2.1, (hgB j hj).2.2⟩) hrn9) (cwV 1 hts gT_X12_book_167 rfl rfl rfl (by decide +kernel) ⟨Nat.le_of_ble_eq_true rfl, Nat.le_of_ble_eq_true rfl⟩) ⟨fun a U g mk q => ⟨q.1, mPre.blind q.2⟩, va_recv h.2.2.2.2.2.1 h.2.2.1 (ci := 11) (q0 := 0) rfl rfl, fun U hU hW => ⟨rfl, mPre.of h.2.2.1 h.2.2.2.2.2.1 hU hW⟩⟩ rfl rfl hl.1 rfl (lv_room (Nat.le_of_ble_eq_true rfl)) dL_law_1248 ⟨by omega, by omega⟩) hS (fun q _ z => h.fm hS q z) (h.fm hS) (fun r8 x9 t7 H10 locs ht hvm hwm hB hz1 hk1 hS => ?_)
  have h := h.cm (mB.at ht hB) hk1
  clear hB hz1 hk1 ht hvm
  refine lv_pop hx hb dL_law_1251 rfl ?_
  refine lv_goto (tgt := 1393) hx hb dL_law_1252 (by decide) ?_
  obtain ⟨hwm, hmR⟩ := hwm
  obtain ⟨hM, hQ, hmf⟩ := hwm
  have hvv : v1 = v6 := ev1.trans ev6.symm
  rw [← hvv] at hmf hmR
  obtain ⟨hG, hso, hxf⟩ := hwx
  have htp : ∃ g, g < 941 ∧ x4.1 1 1 = nI g ∧ x9.1 0 2 = nI g ∧ TB g x4.1 x9.1 := by
    rcases hxf with ⟨a1, a2, a7, a8⟩ | ⟨a1, a2, a7, a8⟩ <;> rcases hmf with ⟨b1, b2⟩ | ⟨b1, b2⟩
    · exact LN.cz a1 b1
    · exact absurd a2 b2
    · exact absurd b2 a2
    · exact ⟨g, hg0, a1.trans hg1, b1.trans hg2, TB.mg ⟨B, hgB⟩ hG hM (by decide) (by decide)⟩
  have hni : NI st sl x4.1 x4.2.1 := by
    rcases hxf with ⟨a1, a2, a3, -⟩ | ⟨a1, a2, a3, -⟩
    · exact a3
    · exact a3
  have hft : x4.1 0 16 = x9.1 0 10 := by
    rcases hxf with ⟨a1, a2, a3, a4⟩ | ⟨a1, a2, a3, a4⟩
    · exact a4.trans (hmR.1 a2).symm
    · exact (a4.trans hn.2.2.2.2.2).trans (hmR.2 a2).symm
  refine W.widen (k := nc + 5) (n := ns + 170) (by omega) (by omega) ?_
  exact kk _ _ _ _ _ _ _ _ _ _ _ rfl h ⟨⟨hG.1, hso.1, hn.1.2.2.1.mg hG (by decide), hn.1.2.2.2.mg hG hso (by decide) (by decide) (by decide)⟩, ⟨hM.1, hn.2.1.2.1.mg hM (by decide), hn.2.1.2.2.1.mg hM (by decide), hn.2.1.2.2.2.mg hM (by decide)⟩, htp, ⟨hn.ck hG hM (by decide) (by decide), ⟨hn.2.2.2.2.1.ni hni hM (by decide) (by decide) hQ (by decide) (by decide), hft⟩⟩⟩ hS hl
set_option maxHeartbeats 4000000 in
set_option maxRecDepth 100000 in
theorem lc_told {p : Program} {e : Env} {s : State} {m : MethodId} {below : List Frame} {meth : Method} {c : Code} (l : Launch) {b L : Nat} {xs : Nat → Int32} (hL : L ≤ 3072) (C0 : lw_At p s m meth c b L xs) (dC : Nat → ClassId) (dI : Nat → Nat → Nat) (ad : Nat → Nat) (E : EP) (hEE : EC ad E) (hE : E (LF s) s s.heap) {A : Nat → Nat} {C : Nat → ClassId} {nb : Nat} {st : Nat → Nat → Int32} {sl : Nat → Nat → Int64} {so : Nat → XR} {ar : Nat → Nat} {cy : Nat → ClassId} {st2 : Nat → Nat → Int32} {sl2 : Nat → Nat → Int64} {a0 o : Nat} {yo : ClassId} {H : Heap} {locs : List Loc} {ls : Array Slot} (i : Nat) (hi : i + 6 ≤ L) (hA0 : A 0 = a0) (h : LH dC dI s H A C nb st sl so ar cy st2 sl2 o yo) (hn : LN ad nb st sl so st2 sl2) (hS : va_S (LF s) s.heap H locs) (hl : lv_has ls 8 [(4, .int (nI i)), (3, .ref o), (2, .ref (ar 0)), (1, .ref a0), (0, .ref b)]) {nc ns : Nat} (h1 : nc + 5 ≤ room_1.cells) (h2 : ns + 170 ≤ room_1.slots) {Q : State → Prop} (kk : LK p l e s m b below meth c dC dI ad ar cy a0 o yo i (nc + 5) (ns + 170) 1393 Q) : W p l e room_1 s m #[Value.ref b] below meth c H locs nc ns Q (F0 m 1255 ls []) := by
  subst hA0
  obtain ⟨hx, hb, hr, hml, hown, hts, hX, hbl, hlocks, hgv⟩ := id C0
  have hbA : ¬ LF s b := fun z => absurd hbl (Nat.not_lt.mpr z)
  obtain ⟨g, hg0, hg1, hg2, B, hgB⟩ := hn.2.2.1
  refine lv_aload_n hx hb dL_law_1255 rfl (lv_at hl 3 rfl) ?_
  refine lv_aload_n hx hb dL_law_1256 rfl (lv_at hl 4 rfl) ?_
  refine lv_iload hx hb dL_law_1257 (lv_at hl 0 rfl) ?_
  refine lv_iconst (v := 1) hx hb dL_law_1259 (by decide) ?_
  refine lv_iadd hx hb dL_law_1260 ?_
  refine zz_top (v := nI (i + 1)) (nI_add i 1) ?_
  refine va_sld hx hb hX hbl hbA hS (i := nI (i + 1)) (vp_in_nI (by omega) (by omega)) dL_law_1261 ?_
  refine lv_topi (fun v1 ev1 => ?_)
  refine va_calli (va_runV (As := [.int v1]) (rest := []) ⟨hx, hb, hml, hown, hts⟩ (x_X11_told l dC dI ad E hEE A C nb H.size h.1.1 st sl so v1 hn.1.1) (cwV 1 hts gT_X11_told_168 rfl rfl rfl (by decide +kernel) ⟨Nat.le_of_ble_eq_true rfl, Nat.le_of_ble_eq_true rfl⟩) ⟨fun a U g mk q => ⟨q.1, xPre.blind hEE q.2⟩, va_recv h.2.2.2.2.1 h.2.1 (ci := 10) (q0 := 0) rfl (xw_is (r := 0) (by omega) (xc_fix (r := 0) (by omega))), fun U hU hW => ⟨rfl, xPre.ofg hEE h.2.1 h.2.2.2.2.1 hE hS (h.fx hS) hU hW⟩⟩ rfl rfl hl.1 rfl (lv_room (Nat.le_of_ble_eq_true rfl)) dL_law_1262 ⟨by omega, by omega⟩) hS (fun q _ z => h.fx hS q z) (h.fx hS) (fun r3 x4 t2 H5 locs ht hvm hwx hB hz1 hk1 hS => ?_)
  have h := h.cx (xB.at ht hB) hk1
  clear hB hz1 hk1 ht hvm
  refine lv_pop hx hb dL_law_1265 rfl ?_
  refine lv_aload_n hx hb dL_law_1266 rfl (lv_at hl 2 rfl) ?_
  refine lv_aload_n hx hb dL_law_1267 rfl (lv_at hl 4 rfl) ?_
  refine lv_iload hx hb dL_law_1268 (lv_at hl 0 rfl) ?_
  refine lv_iconst (v := 1) hx hb dL_law_1270 (by decide) ?_
  refine lv_iadd hx hb dL_law_1271 ?_
  refine zz_top (v := nI (i + 1)) (nI_add i 1) ?_
  refine va_sld hx hb hX hbl hbA hS (i := nI (i + 1)) (vp_in_nI (by omega) (by omega)) dL_law_1272 ?_
  refine lv_topi (fun v6 ev6 => ?_)
  refine va_calli (va_runV (As := [.int v6]) (rest := []) ⟨hx, hb, hml, hown, hts⟩ (m_told l dC dI ar cy H5.size h.1.2.1 st2 sl2 v6 hn.2.1.1) (cwV 1 hts gT_X12_told_171 rfl rfl rfl (by decide +kernel) ⟨Nat.le_of_ble_eq_true rfl, Nat.le_of_ble_eq_true rfl⟩) ⟨fun a U g mk q => ⟨q.1, mPre.blind q.2⟩, va_recv h.2.2.2.2.2.1 h.2.2.1 (ci := 11) (q0 := 0) rfl rfl, fun U hU hW => ⟨rfl, mPre.of h.2.2.1 h.2.2.2.2.2.1 hU hW⟩⟩ rfl rfl hl.1 rfl (lv_room (Nat.le_of_ble_eq_true rfl)) dL_law_1273 ⟨by omega, by omega⟩) hS (fun q _ z => h.fm hS q z) (h.fm hS) (fun r8 x9 t7 H10 locs ht hvm hwm hB hz1 hk1 hS => ?_)
  have h := h.cm (mB.at ht hB) hk1
  clear hB hz1 hk1 ht hvm
  refine lv_pop hx hb dL_law_1276 rfl ?_
  refine lv_goto (tgt := 1393) hx hb dL_law_1277 (by decide) ?_
  obtain ⟨hM, hQ, hmf⟩ := hwm
  obtain ⟨hG, hLx, hso, hxf⟩ := hwx
  refine W.widen (k := nc + 5) (n := ns + 170) (by omega) (by omega) ?_
  exact kk _ _ _ _ _ _ _ _ _ _ _ rfl h ⟨⟨hG.1, by rw [hso]; exact hn.1.2.1, hn.1.2.2.1.mg hG (by decide), by rw [hso]; exact hn.1.2.2.2.mgs hG (by decide) (by decide)⟩, ⟨hM.1, hn.2.1.2.1.mg hM (by decide), hn.2.1.2.2.1.mg hM (by decide), hn.2.1.2.2.2.mg hM (by decide)⟩, hn.ct hG hM (by decide) (by decide) (by decide) (by decide), ⟨hn.ck hG hM (by decide) (by decide), ⟨hn.2.2.2.2.1.ni (NI.rf.mg hG (by decide) (by decide) hLx) hM (by decide) (by decide) hQ (by decide) (by decide), ((hG.2 0 16 (by decide)).trans hn.2.2.2.2.2).trans (hM.2 0 10 (by decide)).symm⟩⟩⟩ hS hl
set_option maxHeartbeats 4000000 in
set_option maxRecDepth 100000 in
theorem lc_sentence {p : Program} {e : Env} {s : State} {m : MethodId} {below : List Frame} {meth : Method} {c : Code} (l : Launch) {b L : Nat} {xs : Nat → Int32} (hL : L ≤ 3072) (C0 : lw_At p s m meth c b L xs) (dC : Nat → ClassId) (dI : Nat → Nat → Nat) (ad : Nat → Nat) (E : EP) (hEE : EC ad E) (hE : E (LF s) s s.heap) {A : Nat → Nat} {C : Nat → ClassId} {nb : Nat} {st : Nat → Nat → Int32} {sl : Nat → Nat → Int64} {so : Nat → XR} {ar : Nat → Nat} {cy : Nat → ClassId} {st2 : Nat → Nat → Int32} {sl2 : Nat → Nat → Int64} {a0 o : Nat} {yo : ClassId} {H : Heap} {locs : List Loc} {ls : Array Slot} (i : Nat) (hi : i + 6 ≤ L) (hA0 : A 0 = a0) (h : LH dC dI s H A C nb st sl so ar cy st2 sl2 o yo) (hn : LN ad nb st sl so st2 sl2) (hS : va_S (LF s) s.heap H locs) (hl : lv_has ls 8 [(4, .int (nI i)), (3, .ref o), (2, .ref (ar 0)), (1, .ref a0), (0, .ref b)]) {nc ns : Nat} (h1 : nc + 5 ≤ room_1.cells) (h2 : ns + 170 ≤ room_1.slots) {Q : State → Prop} (kk : LK p l e s m b below meth c dC dI ad ar cy a0 o yo i (nc + 5) (ns + 170) 1393 Q) : W p l e room_1 s m #[Value.ref b] below meth c H locs nc ns Q (F0 m 1280 ls []) := by
  subst hA0
  obtain ⟨hx, hb, hr, hml, hown, hts, hX, hbl, hlocks, hgv⟩ := id C0
  have hbA : ¬ LF s b := fun z => absurd hbl (Nat.not_lt.mpr z)
  obtain ⟨g, hg0, hg1, hg2, B, hgB⟩ := hn.2.2.1
  refine lv_aload_n hx hb dL_law_1280 rfl (lv_at hl 3 rfl) ?_
  obtain ⟨c9, n9, hcn9, hrn9⟩ := hn.2.2.2.2.1.2.1
  refine va_calli (va_runV (As := []) (rest := []) ⟨hx, hb, hml, hown, hts⟩ (x_X11_sentenceB l dC dI ad E hEE A C nb H.size h.1.1 st sl so B g c9 n9 hn.1.1 hn.1.2.1 hn.1.2.2.2 hg1 hg0 (fun j hj => ⟨(hgB j hj).1, (hgB j hj).2.2⟩) hcn9) (cwV 0 hts gT_X11_sentence_172 rfl rfl rfl (by decide +kernel) ⟨Nat.le_of_ble_eq_true rfl, Nat.le_of_ble_eq_true rfl⟩) ⟨fun a U g mk q => ⟨q.1, xPre.blind hEE q.2⟩, va_recv h.2.2.2.2.1 h.2.1 (ci := 10) (q0 := 0) rfl (xw_is (r := 0) (by omega) (xc_fix (r := 0) (by omega))), fun U hU hW => ⟨rfl, xPre.ofg hEE h.2.1 h.2.2.2.2.1 hE hS (h.fx hS) hU hW⟩⟩ rfl rfl hl.1 rfl (lv_room (Nat.le_of_ble_eq_true rfl)) dL_law_1281 ⟨by omega, by omega⟩) hS (fun q _ z => h.fx hS q z) (h.fx hS) (fun r2 x3 t1 H4 locs ht hvm hwx hB hz1 hk1 hS => ?_)
  have h := h.cx (xB.at ht hB) hk1
  clear hB hz1 hk1 ht hvm
  refine lv_pop hx hb dL_law_1284 rfl ?_
  refine lv_aload_n hx hb dL_law_1285 rfl (lv_at hl 2 rfl) ?_
  refine va_calli (va_runV (As := []) (rest := []) ⟨hx, hb, hml, hown, hts⟩ (m_sentenceB l dC dI ar cy H4.size h.1.2.1 st2 sl2 B g c9 n9 hn.2.1.1 hn.2.1.2.2.2 hg2 hg0 (fun j hj => ⟨(hgB j hj).2.1, (hgB j hj).2.2⟩) hrn9) (cwV 0 hts gT_X12_sentence_175 rfl rfl rfl (by decide +kernel) ⟨Nat.le_of_ble_eq_true rfl, Nat.le_of_ble_eq_true rfl⟩) ⟨fun a U g mk q => ⟨q.1, mPre.blind q.2⟩, va_recv h.2.2.2.2.2.1 h.2.2.1 (ci := 11) (q0 := 0) rfl rfl, fun U hU hW => ⟨rfl, mPre.of h.2.2.1 h.2.2.2.2.2.1 hU hW⟩⟩ rfl rfl hl.1 rfl (lv_room (Nat.le_of_ble_eq_true rfl)) dL_law_1286 ⟨by omega, by omega⟩) hS (fun q _ z => h.fm hS q z) (h.fm hS) (fun r6 x7 t5 H8 locs ht hvm hwm hB hz1 hk1 hS => ?_)
  have h := h.cm (mB.at ht hB) hk1
  clear hB hz1 hk1 ht hvm
  refine lv_pop hx hb dL_law_1289 rfl ?_
  refine lv_goto (tgt := 1393) hx hb dL_law_1290 (by decide) ?_
  obtain ⟨hwx, hxR⟩ := hwx
  obtain ⟨hwm, hmR⟩ := hwm
  obtain ⟨hM, hQ, hmf⟩ := hwm
  obtain ⟨hG, hLx, hso, hxf⟩ := hwx
  refine W.widen (k := nc + 5) (n := ns + 170) (by omega) (by omega) ?_
  exact kk _ _ _ _ _ _ _ _ _ _ _ rfl h ⟨⟨hG.1, hso.1, hn.1.2.2.1.mg hG (by decide), hxf.2⟩, ⟨hM.1, hmf.2.2 hn.2.1.2.1, hn.2.1.2.2.1.mg hM (by decide), hmf.2.1⟩, LN.cz hxf.1 hmf.1, ⟨hn.ck hG hM (by decide) (by decide), ⟨hn.2.2.2.2.1.ni (NI.rf.mg hG (by decide) (by decide) hLx) hM (by decide) (by decide) hQ (by decide) (by decide), hxR.trans hmR.symm⟩⟩⟩ hS hl
set_option maxHeartbeats 4000000 in
set_option maxRecDepth 100000 in
theorem lc_said {p : Program} {e : Env} {s : State} {m : MethodId} {below : List Frame} {meth : Method} {c : Code} (l : Launch) {b L : Nat} {xs : Nat → Int32} (hL : L ≤ 3072) (C0 : lw_At p s m meth c b L xs) (dC : Nat → ClassId) (dI : Nat → Nat → Nat) (ad : Nat → Nat) (E : EP) (hEE : EC ad E) (hE : E (LF s) s s.heap) {A : Nat → Nat} {C : Nat → ClassId} {nb : Nat} {st : Nat → Nat → Int32} {sl : Nat → Nat → Int64} {so : Nat → XR} {ar : Nat → Nat} {cy : Nat → ClassId} {st2 : Nat → Nat → Int32} {sl2 : Nat → Nat → Int64} {a0 o : Nat} {yo : ClassId} {H : Heap} {locs : List Loc} {ls : Array Slot} (i : Nat) (hi : i + 6 ≤ L) (hA0 : A 0 = a0) (h : LH dC dI s H A C nb st sl so ar cy st2 sl2 o yo) (hn : LN ad nb st sl so st2 sl2) (hS : va_S (LF s) s.heap H locs) (hl : lv_has ls 8 [(4, .int (nI i)), (3, .ref o), (2, .ref (ar 0)), (1, .ref a0), (0, .ref b)]) {nc ns : Nat} (h1 : nc + 5 ≤ room_1.cells) (h2 : ns + 170 ≤ room_1.slots) {Q : State → Prop} (kk : LK p l e s m b below meth c dC dI ad ar cy a0 o yo i (nc + 5) (ns + 170) 1393 Q) : W p l e room_1 s m #[Value.ref b] below meth c H locs nc ns Q (F0 m 1293 ls []) := by
  subst hA0
  obtain ⟨hx, hb, hr, hml, hown, hts, hX, hbl, hlocks, hgv⟩ := id C0
  have hbA : ¬ LF s b := fun z => absurd hbl (Nat.not_lt.mpr z)
  obtain ⟨g, hg0, hg1, hg2, B, hgB⟩ := hn.2.2.1
  refine lv_aload_n hx hb dL_law_1293 rfl (lv_at hl 3 rfl) ?_
  refine lv_aload_n hx hb dL_law_1294 rfl (lv_at hl 4 rfl) ?_
  refine lv_iload hx hb dL_law_1295 (lv_at hl 0 rfl) ?_
  refine lv_iconst (v := 1) hx hb dL_law_1297 (by decide) ?_
  refine lv_iadd hx hb dL_law_1298 ?_
  refine zz_top (v := nI (i + 1)) (nI_add i 1) ?_
  refine va_sld hx hb hX hbl hbA hS (i := nI (i + 1)) (vp_in_nI (by omega) (by omega)) dL_law_1299 ?_
  refine lv_topi (fun v1 ev1 => ?_)
  refine va_calli (va_runV (As := [.int v1]) (rest := []) ⟨hx, hb, hml, hown, hts⟩ (x_X11_said l dC dI ad E hEE A C nb H.size h.1.1 st sl so v1 hn.1.1 hn.1.2.1 hn.1.2.2.2) (cwV 1 hts gT_X11_said_176 rfl rfl rfl (by decide +kernel) ⟨Nat.le_of_ble_eq_true rfl, Nat.le_of_ble_eq_true rfl⟩) ⟨fun a U g mk q => ⟨q.1, xPre.blind hEE q.2⟩, va_recv h.2.2.2.2.1 h.2.1 (ci := 10) (q0 := 0) rfl (xw_is (r := 0) (by omega) (xc_fix (r := 0) (by omega))), fun U hU hW => ⟨rfl, xPre.ofg hEE h.2.1 h.2.2.2.2.1 hE hS (h.fx hS) hU hW⟩⟩ rfl rfl hl.1 rfl (lv_room (Nat.le_of_ble_eq_true rfl)) dL_law_1300 ⟨by omega, by omega⟩) hS (fun q _ z => h.fx hS q z) (h.fx hS) (fun r3 x4 t2 H5 locs ht hvm hwx hB hz1 hk1 hS => ?_)
  obtain ⟨rfl, -⟩ := hwx
  have h := h.cx (xB.at ht hB) hk1
  clear hB hz1 hk1 ht hvm
  refine lv_pop hx hb dL_law_1303 rfl ?_
  refine lv_aload_n hx hb dL_law_1304 rfl (lv_at hl 2 rfl) ?_
  refine lv_aload_n hx hb dL_law_1305 rfl (lv_at hl 4 rfl) ?_
  refine lv_iload hx hb dL_law_1306 (lv_at hl 0 rfl) ?_
  refine lv_iconst (v := 1) hx hb dL_law_1308 (by decide) ?_
  refine lv_iadd hx hb dL_law_1309 ?_
  refine zz_top (v := nI (i + 1)) (nI_add i 1) ?_
  refine va_sld hx hb hX hbl hbA hS (i := nI (i + 1)) (vp_in_nI (by omega) (by omega)) dL_law_1310 ?_
  refine lv_topi (fun v6 ev6 => ?_)
  refine va_calli (va_runV (As := [.int v6]) (rest := []) ⟨hx, hb, hml, hown, hts⟩ (m_said l dC dI ar cy H5.size h.1.2.1 st2 sl2 v6 hn.2.1.1 hn.2.1.2.1) (cwV 1 hts gT_X12_said_179 rfl rfl rfl (by decide +kernel) ⟨Nat.le_of_ble_eq_true rfl, Nat.le_of_ble_eq_true rfl⟩) ⟨fun a U g mk q => ⟨q.1, mPre.blind q.2⟩, va_recv h.2.2.2.2.2.1 h.2.2.1 (ci := 11) (q0 := 0) rfl rfl, fun U hU hW => ⟨rfl, mPre.of h.2.2.1 h.2.2.2.2.2.1 hU hW⟩⟩ rfl rfl hl.1 rfl (lv_room (Nat.le_of_ble_eq_true rfl)) dL_law_1311 ⟨by omega, by omega⟩) hS (fun q _ z => h.fm hS q z) (h.fm hS) (fun r8 x9 t7 H10 locs ht hvm hwm hB hz1 hk1 hS => ?_)
  have h := h.cm (mB.at ht hB) hk1
  clear hB hz1 hk1 ht hvm
  refine lv_pop hx hb dL_law_1314 rfl ?_
  refine lv_goto (tgt := 1393) hx hb dL_law_1315 (by decide) ?_
  obtain ⟨hM, hQ, hmf⟩ := hwm
  have hG : XG [1, 2, 4, 5, 13, 14, 7, 15] st st := XG.rf hn.1.1
  refine W.widen (k := nc + 5) (n := ns + 170) (by omega) (by omega) ?_
  exact kk _ _ _ _ _ _ _ _ _ _ _ rfl h ⟨hn.1, ⟨hM.1, hn.2.1.2.1.mg hM (by decide), hn.2.1.2.2.1.mg hM (by decide), hn.2.1.2.2.2.mg hM (by decide)⟩, hn.ct hG hM (by decide) (by decide) (by decide) (by decide), ⟨hn.ck hG hM (by decide) (by decide), ⟨hn.2.2.2.2.1.ni NI.rf hM (by decide) (by decide) hQ (by decide) (by decide), hn.2.2.2.2.2.trans (hM.2 0 10 (by decide)).symm⟩⟩⟩ hS hl
set_option maxHeartbeats 4000000 in
set_option maxRecDepth 100000 in
theorem lc_image {p : Program} {e : Env} {s : State} {m : MethodId} {below : List Frame} {meth : Method} {c : Code} (l : Launch) {b L : Nat} {xs : Nat → Int32} (hL : L ≤ 3072) (C0 : lw_At p s m meth c b L xs) (dC : Nat → ClassId) (dI : Nat → Nat → Nat) (ad : Nat → Nat) (E : EP) (hEE : EC ad E) (hE : E (LF s) s s.heap) {A : Nat → Nat} {C : Nat → ClassId} {nb : Nat} {st : Nat → Nat → Int32} {sl : Nat → Nat → Int64} {so : Nat → XR} {ar : Nat → Nat} {cy : Nat → ClassId} {st2 : Nat → Nat → Int32} {sl2 : Nat → Nat → Int64} {a0 o : Nat} {yo : ClassId} {H : Heap} {locs : List Loc} {ls : Array Slot} (i : Nat) (hi : i + 6 ≤ L) (hA0 : A 0 = a0) (h : LH dC dI s H A C nb st sl so ar cy st2 sl2 o yo) (hn : LN ad nb st sl so st2 sl2) (hS : va_S (LF s) s.heap H locs) (hl : lv_has ls 8 [(4, .int (nI i)), (3, .ref o), (2, .ref (ar 0)), (1, .ref a0), (0, .ref b)]) {nc ns : Nat} (h1 : nc + 5 ≤ room_1.cells) (h2 : ns + 170 ≤ room_1.slots) {Q : State → Prop} (kk : LK p l e s m b below meth c dC dI ad ar cy a0 o yo i (nc + 5) (ns + 170) 1393 Q) : W p l e room_1 s m #[Value.ref b] below meth c H locs nc ns Q (F0 m 1318 ls []) := by
  subst hA0
  obtain ⟨hx, hb, hr, hml, hown, hts, hX, hbl, hlocks, hgv⟩ := id C0
  have hbA : ¬ LF s b := fun z => absurd hbl (Nat.not_lt.mpr z)
  obtain ⟨g, hg0, hg1, hg2, B, hgB⟩ := hn.2.2.1
  refine lv_aload_n hx hb dL_law_1318 rfl (lv_at hl 3 rfl) ?_
  refine lv_aload_n hx hb dL_law_1319 rfl (lv_at hl 4 rfl) ?_
  refine lv_iload hx hb dL_law_1320 (lv_at hl 0 rfl) ?_
  refine lv_iconst (v := 1) hx hb dL_law_1322 (by decide) ?_
  refine lv_iadd hx hb dL_law_1323 ?_
  refine zz_top (v := nI (i + 1)) (nI_add i 1) ?_
  refine va_sld hx hb hX hbl hbA hS (i := nI (i + 1)) (vp_in_nI (by omega) (by omega)) dL_law_1324 ?_
  refine lv_topi (fun v1 ev1 => ?_)
  refine va_calli (va_runV (As := [.int v1]) (rest := []) ⟨hx, hb, hml, hown, hts⟩ (x_X11_image l dC dI ad E hEE A C nb H.size h.1.1 st sl so v1 hn.1.1 hn.1.2.1 hn.1.2.2.2) (cwV 1 hts gT_X11_image_180 rfl rfl rfl (by decide +kernel) ⟨Nat.le_of_ble_eq_true rfl, Nat.le_of_ble_eq_true rfl⟩) ⟨fun a U g mk q => ⟨q.1, xPre.blind hEE q.2⟩, va_recv h.2.2.2.2.1 h.2.1 (ci := 10) (q0 := 0) rfl (xw_is (r := 0) (by omega) (xc_fix (r := 0) (by omega))), fun U hU hW => ⟨rfl, xPre.ofg hEE h.2.1 h.2.2.2.2.1 hE hS (h.fx hS) hU hW⟩⟩ rfl rfl hl.1 rfl (lv_room (Nat.le_of_ble_eq_true rfl)) dL_law_1325 ⟨by omega, by omega⟩) hS (fun q _ z => h.fx hS q z) (h.fx hS) (fun r3 x4 t2 H5 locs ht hvm hwx hB hz1 hk1 hS => ?_)
  have h := h.cx (xB.at ht hB) hk1
  clear hB hz1 hk1 ht hvm
  refine lv_pop hx hb dL_law_1328 rfl ?_
  refine lv_aload_n hx hb dL_law_1329 rfl (lv_at hl 2 rfl) ?_
  refine lv_aload_n hx hb dL_law_1330 rfl (lv_at hl 4 rfl) ?_
  refine lv_iload hx hb dL_law_1331 (lv_at hl 0 rfl) ?_
  refine lv_iconst (v := 1) hx hb dL_law_1333 (by decide) ?_
  refine lv_iadd hx hb dL_law_1334 ?_
  refine zz_top (v := nI (i + 1)) (nI_add i 1) ?_
  refine va_sld hx hb hX hbl hbA hS (i := nI (i + 1)) (vp_in_nI (by omega) (by omega)) dL_law_1335 ?_
  refine lv_topi (fun v6 ev6 => ?_)
  refine va_calli (va_runV (As := [.int v6]) (rest := []) ⟨hx, hb, hml, hown, hts⟩ (m_image l dC dI ar cy H5.size h.1.2.1 st2 sl2 v6 hn.2.1.1) (cwV 1 hts gT_X12_image_183 rfl rfl rfl (by decide +kernel) ⟨Nat.le_of_ble_eq_true rfl, Nat.le_of_ble_eq_true rfl⟩) ⟨fun a U g mk q => ⟨q.1, mPre.blind q.2⟩, va_recv h.2.2.2.2.2.1 h.2.2.1 (ci := 11) (q0 := 0) rfl rfl, fun U hU hW => ⟨rfl, mPre.of h.2.2.1 h.2.2.2.2.2.1 hU hW⟩⟩ rfl rfl hl.1 rfl (lv_room (Nat.le_of_ble_eq_true rfl)) dL_law_1336 ⟨by omega, by omega⟩) hS (fun q _ z => h.fm hS q z) (h.fm hS) (fun r8 x9 t7 H10 locs ht hvm hwm hB hz1 hk1 hS => ?_)
  have h := h.cm (mB.at ht hB) hk1
  clear hB hz1 hk1 ht hvm
  refine lv_pop hx hb dL_law_1339 rfl ?_
  refine lv_goto (tgt := 1393) hx hb dL_law_1340 (by decide) ?_
  obtain ⟨hM, hQ, hmf⟩ := hwm
  have hvv : v1 = v6 := ev1.trans ev6.symm
  rw [← hvv] at hmf
  obtain ⟨hG, hso, hxf⟩ := hwx
  have hsk : SKall ad x4.1 x4.2.2 := by
    rcases hxf with ⟨n, a1, a2, a3, a4, a5, a6, a7⟩ | ⟨a1, a2, a3, a4, a7⟩
    · exact a6
    · exact a4
  have hnk : NKk x9.1 := by
    rcases hmf with ⟨n, a1, a2, a3, a4, a5, a6, a7, a8, a9, a10⟩ | ⟨a1, a2, a3, a4, a7, a9⟩
    · exact a6 hn.2.1.2.1 hn.2.1.2.2.1
    · exact a4 hn.2.1.2.2.1
  have hkp : ∀ j, j < 2 → x4.1 15 j = x9.1 10 j := fun j hj => by
    rcases hxf with ⟨n1, a1, a2, a3, a4, a5, a6, a7⟩ | ⟨a1, a2, a3, a4, a7⟩ <;> rcases hmf with ⟨n2, b1, b2, b3, b4, b5, b6, b7, b8, b9, b10⟩ | ⟨b1, b2, b3, b4, b7, b9⟩
    · have e : n1 = n2 := zz_nI (by omega) (by omega) (a2.symm.trans b2)
      subst e
      by_cases ej : j = n1
      · rw [ej, a4, b4]
      · rw [a5 j ej, b5 j ej]; exact hn.2.2.2.1 j hj
    · exact absurd ⟨n1, a3, a2⟩ b2
    · exact absurd ⟨n2, b3, b2⟩ a2
    · rw [a3 j, b3 j]; exact hn.2.2.2.1 j hj
  have hct : NT x4.1 x4.2.1 x9.1 x9.2 := by
    rcases hxf with ⟨n1, a1, a2, a3, a4, a5, a6, a7⟩ | ⟨a1, a2, a3, a4, a7⟩ <;> rcases hmf with ⟨n2, b1, b2, b3, b4, b5, b6, b7, b8, b9, b10⟩ | ⟨b1, b2, b3, b4, b7, b9⟩
    · have e : n1 = n2 := zz_nI (by omega) (by omega) (a2.symm.trans b2)
      subst e
      exact hn.2.2.2.2.1.image a3 a7 hG (by decide) b7 b8 b9 b10 hM (by decide) hQ (by decide)
    · exact absurd ⟨n1, a3, a2⟩ b2
    · exact absurd ⟨n2, b3, b2⟩ a2
    · exact hn.2.2.2.2.1.image0 a7 hM (by decide) b7 hQ (by decide) b9
  refine W.widen (k := nc + 5) (n := ns + 170) (by omega) (by omega) ?_
  exact kk _ _ _ _ _ _ _ _ _ _ _ rfl h ⟨⟨hG.1, hso.1, hn.1.2.2.1.mg hG (by decide), hsk⟩, ⟨hM.1, hn.2.1.2.1.mg hM (by decide), hnk, hn.2.1.2.2.2.mg hM (by decide)⟩, hn.ct hG hM (by decide) (by decide) (by decide) (by decide), ⟨hkp, ⟨hct, ((hG.2 0 16 (by decide)).trans hn.2.2.2.2.2).trans (hM.2 0 10 (by decide)).symm⟩⟩⟩ hS hl
set_option maxHeartbeats 4000000 in
set_option maxRecDepth 100000 in
theorem lc_restore {p : Program} {e : Env} {s : State} {m : MethodId} {below : List Frame} {meth : Method} {c : Code} (l : Launch) {b L : Nat} {xs : Nat → Int32} (hL : L ≤ 3072) (C0 : lw_At p s m meth c b L xs) (dC : Nat → ClassId) (dI : Nat → Nat → Nat) (ad : Nat → Nat) (E : EP) (hEE : EC ad E) (hE : E (LF s) s s.heap) {A : Nat → Nat} {C : Nat → ClassId} {nb : Nat} {st : Nat → Nat → Int32} {sl : Nat → Nat → Int64} {so : Nat → XR} {ar : Nat → Nat} {cy : Nat → ClassId} {st2 : Nat → Nat → Int32} {sl2 : Nat → Nat → Int64} {a0 o : Nat} {yo : ClassId} {H : Heap} {locs : List Loc} {ls : Array Slot} (i : Nat) (hi : i + 6 ≤ L) (hA0 : A 0 = a0) (h : LH dC dI s H A C nb st sl so ar cy st2 sl2 o yo) (hn : LN ad nb st sl so st2 sl2) (hS : va_S (LF s) s.heap H locs) (hl : lv_has ls 8 [(4, .int (nI i)), (3, .ref o), (2, .ref (ar 0)), (1, .ref a0), (0, .ref b)]) {nc ns : Nat} (h1 : nc + 5 ≤ room_1.cells) (h2 : ns + 170 ≤ room_1.slots) {Q : State → Prop} (kk : LK p l e s m b below meth c dC dI ad ar cy a0 o yo i (nc + 5) (ns + 170) 1393 Q) : W p l e room_1 s m #[Value.ref b] below meth c H locs nc ns Q (F0 m 1343 ls []) := by
  subst hA0
  obtain ⟨hx, hb, hr, hml, hown, hts, hX, hbl, hlocks, hgv⟩ := id C0
  have hbA : ¬ LF s b := fun z => absurd hbl (Nat.not_lt.mpr z)
  obtain ⟨g, hg0, hg1, hg2, B, hgB⟩ := hn.2.2.1
  refine lv_aload_n hx hb dL_law_1343 rfl (lv_at hl 3 rfl) ?_
  refine lv_aload_n hx hb dL_law_1344 rfl (lv_at hl 4 rfl) ?_
  refine lv_iload hx hb dL_law_1345 (lv_at hl 0 rfl) ?_
  refine lv_iconst (v := 1) hx hb dL_law_1347 (by decide) ?_
  refine lv_iadd hx hb dL_law_1348 ?_
  refine zz_top (v := nI (i + 1)) (nI_add i 1) ?_
  refine va_sld hx hb hX hbl hbA hS (i := nI (i + 1)) (vp_in_nI (by omega) (by omega)) dL_law_1349 ?_
  refine lv_topi (fun v1 ev1 => ?_)
  refine va_calli (va_runV (As := [.int v1]) (rest := []) ⟨hx, hb, hml, hown, hts⟩ (x_X11_restore l dC dI ad E hEE A C nb H.size h.1.1 st sl so v1 hn.1.1 hn.1.2.1 hn.1.2.2.2) (cwV 1 hts gT_X11_restore_184 rfl rfl rfl (by decide +kernel) ⟨Nat.le_of_ble_eq_true rfl, Nat.le_of_ble_eq_true rfl⟩) ⟨fun a U g mk q => ⟨q.1, xPre.blind hEE q.2⟩, va_recv h.2.2.2.2.1 h.2.1 (ci := 10) (q0 := 0) rfl (xw_is (r := 0) (by omega) (xc_fix (r := 0) (by omega))), fun U hU hW => ⟨rfl, xPre.ofg hEE h.2.1 h.2.2.2.2.1 hE hS (h.fx hS) hU hW⟩⟩ rfl rfl hl.1 rfl (lv_room (Nat.le_of_ble_eq_true rfl)) dL_law_1350 ⟨by omega, by omega⟩) hS (fun q _ z => h.fx hS q z) (h.fx hS) (fun r3 x4 t2 H5 locs ht hvm hwx hB hz1 hk1 hS => ?_)
  have h := h.cx (xB.at ht hB) hk1
  clear hB hz1 hk1 ht hvm
  refine lv_pop hx hb dL_law_1353 rfl ?_
  refine lv_aload_n hx hb dL_law_1354 rfl (lv_at hl 2 rfl) ?_
  refine lv_aload_n hx hb dL_law_1355 rfl (lv_at hl 4 rfl) ?_
  refine lv_iload hx hb dL_law_1356 (lv_at hl 0 rfl) ?_
  refine lv_iconst (v := 1) hx hb dL_law_1358 (by decide) ?_
  refine lv_iadd hx hb dL_law_1359 ?_
  refine zz_top (v := nI (i + 1)) (nI_add i 1) ?_
  refine va_sld hx hb hX hbl hbA hS (i := nI (i + 1)) (vp_in_nI (by omega) (by omega)) dL_law_1360 ?_
  refine lv_topi (fun v6 ev6 => ?_)
  refine va_calli (va_runV (As := [.int v6]) (rest := []) ⟨hx, hb, hml, hown, hts⟩ (m_restore l dC dI ar cy H5.size h.1.2.1 st2 sl2 v6 hn.2.1.1) (cwV 1 hts gT_X12_restore_187 rfl rfl rfl (by decide +kernel) ⟨Nat.le_of_ble_eq_true rfl, Nat.le_of_ble_eq_true rfl⟩) ⟨fun a U g mk q => ⟨q.1, mPre.blind q.2⟩, va_recv h.2.2.2.2.2.1 h.2.2.1 (ci := 11) (q0 := 0) rfl rfl, fun U hU hW => ⟨rfl, mPre.of h.2.2.1 h.2.2.2.2.2.1 hU hW⟩⟩ rfl rfl hl.1 rfl (lv_room (Nat.le_of_ble_eq_true rfl)) dL_law_1361 ⟨by omega, by omega⟩) hS (fun q _ z => h.fm hS q z) (h.fm hS) (fun r8 x9 t7 H10 locs ht hvm hwm hB hz1 hk1 hS => ?_)
  have h := h.cm (mB.at ht hB) hk1
  clear hB hz1 hk1 ht hvm
  refine lv_pop hx hb dL_law_1364 rfl ?_
  refine lv_goto (tgt := 1393) hx hb dL_law_1365 (by decide) ?_
  obtain ⟨hM, hQ, hmf⟩ := hwm
  have hvv : v1 = v6 := ev1.trans ev6.symm
  rw [← hvv] at hmf
  obtain ⟨hG, hso, hxf⟩ := hwx
  have hsk : SKall ad x4.1 x4.2.2 := by
    rcases hxf with ⟨n, a1, a2, a3, a4, a5, a7, a8⟩ | ⟨a1, a2, a3, a7⟩
    · exact a5
    · exact a3
  have hnk : NKn x9.1 := by
    rcases hmf with ⟨n, a1, a2, a3, a4, a5, a7, a9⟩ | ⟨a1, a2, a3, a7, a9⟩
    · exact a5 hn.2.1.2.2.1
    · exact a3 hn.2.1.2.1
  have hct : NT x4.1 x4.2.1 x9.1 x9.2 := by
    rcases hxf with ⟨n1, a1, a2, a3, a4, a5, a7, a8⟩ | ⟨a1, a2, a3, a7⟩ <;> rcases hmf with ⟨n2, b1, b2, b3, b4, b5, b7, b9⟩ | ⟨b1, b2, b3, b7, b9⟩
    · have e : n1 = n2 := zz_nI (by omega) (by omega) (a2.symm.trans b2)
      subst e
      exact hn.2.2.2.2.1.restore a3 a7 a8 b7 b9 hM (by decide) hQ (by decide)
    · exact absurd ((hn.2.2.2.1 n1 a3).trans (b2 n1 a3 a2)) a4
    · exact absurd ((hn.2.2.2.1 n2 b3).symm.trans (a2 n2 b3 b2)) b4
    · exact hn.2.2.2.2.1.restore0 a7 hM (by decide) b7 hQ (by decide) b9
  refine W.widen (k := nc + 5) (n := ns + 170) (by omega) (by omega) ?_
  exact kk _ _ _ _ _ _ _ _ _ _ _ rfl h ⟨⟨hG.1, hso.1, hn.1.2.2.1.mg hG (by decide), hsk⟩, ⟨hM.1, hnk, hn.2.1.2.2.1.mg hM (by decide), hn.2.1.2.2.2.mg hM (by decide)⟩, hn.ct hG hM (by decide) (by decide) (by decide) (by decide), ⟨hn.ck hG hM (by decide) (by decide), ⟨hct, ((hG.2 0 16 (by decide)).trans hn.2.2.2.2.2).trans (hM.2 0 10 (by decide)).symm⟩⟩⟩ hS hl
set_option maxHeartbeats 4000000 in
set_option maxRecDepth 100000 in
theorem lc_count {p : Program} {e : Env} {s : State} {m : MethodId} {below : List Frame} {meth : Method} {c : Code} (l : Launch) {b L : Nat} {xs : Nat → Int32} (hL : L ≤ 3072) (C0 : lw_At p s m meth c b L xs) (dC : Nat → ClassId) (dI : Nat → Nat → Nat) (ad : Nat → Nat) (E : EP) (hEE : EC ad E) (hE : E (LF s) s s.heap) {A : Nat → Nat} {C : Nat → ClassId} {nb : Nat} {st : Nat → Nat → Int32} {sl : Nat → Nat → Int64} {so : Nat → XR} {ar : Nat → Nat} {cy : Nat → ClassId} {st2 : Nat → Nat → Int32} {sl2 : Nat → Nat → Int64} {a0 o : Nat} {yo : ClassId} {H : Heap} {locs : List Loc} {ls : Array Slot} (i : Nat) (hi : i + 6 ≤ L) (hA0 : A 0 = a0) (h : LH dC dI s H A C nb st sl so ar cy st2 sl2 o yo) (hn : LN ad nb st sl so st2 sl2) (hS : va_S (LF s) s.heap H locs) (hl : lv_has ls 8 [(4, .int (nI i)), (3, .ref o), (2, .ref (ar 0)), (1, .ref a0), (0, .ref b)]) {nc ns : Nat} (h1 : nc + 5 ≤ room_1.cells) (h2 : ns + 170 ≤ room_1.slots) {Q : State → Prop} (kk : LK p l e s m b below meth c dC dI ad ar cy a0 o yo i (nc + 5) (ns + 170) 1393 Q) : W p l e room_1 s m #[Value.ref b] below meth c H locs nc ns Q (F0 m 1368 ls []) := by
  subst hA0
  obtain ⟨hx, hb, hr, hml, hown, hts, hX, hbl, hlocks, hgv⟩ := id C0
  have hbA : ¬ LF s b := fun z => absurd hbl (Nat.not_lt.mpr z)
  obtain ⟨g, hg0, hg1, hg2, B, hgB⟩ := hn.2.2.1
  refine lv_aload_n hx hb dL_law_1368 rfl (lv_at hl 3 rfl) ?_
  refine lv_aload_n hx hb dL_law_1369 rfl (lv_at hl 4 rfl) ?_
  refine lv_iload hx hb dL_law_1370 (lv_at hl 0 rfl) ?_
  refine lv_iconst (v := 1) hx hb dL_law_1372 (by decide) ?_
  refine lv_iadd hx hb dL_law_1373 ?_
  refine zz_top (v := nI (i + 1)) (nI_add i 1) ?_
  refine va_sld hx hb hX hbl hbA hS (i := nI (i + 1)) (vp_in_nI (by omega) (by omega)) dL_law_1374 ?_
  refine lv_topi (fun v1 ev1 => ?_)
  refine va_calli (va_runV (As := [.int v1]) (rest := []) ⟨hx, hb, hml, hown, hts⟩ (x_X11_count l dC dI ad E hEE A C nb H.size h.1.1 st sl so v1 hn.1.1) (cwV 1 hts gT_X11_count_188 rfl rfl rfl (by decide +kernel) ⟨Nat.le_of_ble_eq_true rfl, Nat.le_of_ble_eq_true rfl⟩) ⟨fun a U g mk q => ⟨q.1, xPre.blind hEE q.2⟩, va_recv h.2.2.2.2.1 h.2.1 (ci := 10) (q0 := 0) rfl (xw_is (r := 0) (by omega) (xc_fix (r := 0) (by omega))), fun U hU hW => ⟨rfl, xPre.ofg hEE h.2.1 h.2.2.2.2.1 hE hS (h.fx hS) hU hW⟩⟩ rfl rfl hl.1 rfl (lv_room (Nat.le_of_ble_eq_true rfl)) dL_law_1375 ⟨by omega, by omega⟩) hS (fun q _ z => h.fx hS q z) (h.fx hS) (fun r3 x4 t2 H5 locs ht hvm hwx hB hz1 hk1 hS => ?_)
  have h := h.cx (xB.at ht hB) hk1
  clear hB hz1 hk1 ht hvm
  refine lv_pop hx hb dL_law_1378 rfl ?_
  refine lv_aload_n hx hb dL_law_1379 rfl (lv_at hl 2 rfl) ?_
  refine lv_aload_n hx hb dL_law_1380 rfl (lv_at hl 4 rfl) ?_
  refine lv_iload hx hb dL_law_1381 (lv_at hl 0 rfl) ?_
  refine lv_iconst (v := 1) hx hb dL_law_1383 (by decide) ?_
  refine lv_iadd hx hb dL_law_1384 ?_
  refine zz_top (v := nI (i + 1)) (nI_add i 1) ?_
  refine va_sld hx hb hX hbl hbA hS (i := nI (i + 1)) (vp_in_nI (by omega) (by omega)) dL_law_1385 ?_
  refine lv_topi (fun v6 ev6 => ?_)
  refine va_calli (va_runV (As := [.int v6]) (rest := []) ⟨hx, hb, hml, hown, hts⟩ (m_count l dC dI ar cy H5.size h.1.2.1 st2 sl2 v6 hn.2.1.1) (cwV 1 hts gT_X12_count_191 rfl rfl rfl (by decide +kernel) ⟨Nat.le_of_ble_eq_true rfl, Nat.le_of_ble_eq_true rfl⟩) ⟨fun a U g mk q => ⟨q.1, mPre.blind q.2⟩, va_recv h.2.2.2.2.2.1 h.2.2.1 (ci := 11) (q0 := 0) rfl rfl, fun U hU hW => ⟨rfl, mPre.of h.2.2.1 h.2.2.2.2.2.1 hU hW⟩⟩ rfl rfl hl.1 rfl (lv_room (Nat.le_of_ble_eq_true rfl)) dL_law_1386 ⟨by omega, by omega⟩) hS (fun q _ z => h.fm hS q z) (h.fm hS) (fun r8 x9 t7 H10 locs ht hvm hwm hB hz1 hk1 hS => ?_)
  have h := h.cm (mB.at ht hB) hk1
  clear hB hz1 hk1 ht hvm
  refine lv_pop hx hb dL_law_1389 rfl ?_
  refine lv_goto (tgt := 1393) hx hb dL_law_1390 (by decide) ?_
  obtain ⟨hM, hQ, hmf⟩ := hwm
  obtain ⟨hG, hLx, hso, hxf⟩ := hwx
  refine W.widen (k := nc + 5) (n := ns + 170) (by omega) (by omega) ?_
  exact kk _ _ _ _ _ _ _ _ _ _ _ rfl h ⟨⟨hG.1, by rw [hso]; exact hn.1.2.1, hn.1.2.2.1.mg hG (by decide), by rw [hso]; exact hn.1.2.2.2.mgs hG (by decide) (by decide)⟩, ⟨hM.1, hn.2.1.2.1.mg hM (by decide), hn.2.1.2.2.1.mg hM (by decide), hn.2.1.2.2.2.mg hM (by decide)⟩, hn.ct hG hM (by decide) (by decide) (by decide) (by decide), ⟨hn.ck hG hM (by decide) (by decide), ⟨hn.2.2.2.2.1.ni (NI.rf.mg hG (by decide) (by decide) hLx) hM (by decide) (by decide) hQ (by decide) (by decide), ((hG.2 0 16 (by decide)).trans hn.2.2.2.2.2).trans (hM.2 0 10 (by decide)).symm⟩⟩⟩ hS hl
