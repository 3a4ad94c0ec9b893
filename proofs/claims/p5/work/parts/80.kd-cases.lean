set_option maxHeartbeats 4000000 in
set_option maxRecDepth 100000 in
theorem lc_parted {p : Program} {e : Env} {s : State} {m : MethodId} {below : List Frame} {meth : Method} {c : Code} (l : Launch) {b L : Nat} {xs : Nat → Int32} (hL : L ≤ 3072) (C0 : lw_At p s m meth c b L xs) (dC : Nat → ClassId) (dI : Nat → Nat → Nat) (ad : Nat → Nat) (E : EP) (hEE : EC ad E) (hE : E (LF s) s s.heap) {A : Nat → Nat} {C : Nat → ClassId} {nb : Nat} {st : Nat → Nat → Int32} {sl : Nat → Nat → Int64} {so : Nat → XR} {ar : Nat → Nat} {cy : Nat → ClassId} {st2 : Nat → Nat → Int32} {sl2 : Nat → Nat → Int64} {a0 o : Nat} {yo : ClassId} {H : Heap} {locs : List Loc} {ls : Array Slot} (i : Nat) (hi : i + 6 ≤ L) (hA0 : A 0 = a0) (h : LH dC dI s H A C nb st sl so ar cy st2 sl2 o yo) (hn : LN ad nb st sl so st2 sl2) (hS : va_S (LF s) s.heap H locs) (hl : lv_has ls 8 [(4, .int (nI i)), (3, .ref o), (2, .ref (ar 0)), (1, .ref a0), (0, .ref b)]) {nc ns : Nat} (h1 : nc + 5 ≤ room_1.cells) (h2 : ns + 170 ≤ room_1.slots) {Q : State → Prop} (kk : LK p l e s m b below meth c dC dI ad ar cy a0 o yo i (nc + 5) (ns + 170) 1393 Q) : W p l e room_1 s m #[Value.ref b] below meth c H locs nc ns Q (F0 m 1005 ls []) := by
  subst hA0
  obtain ⟨hx, hb, hr, hml, hown, hts, hX, hbl, hlocks, hgv⟩ := id C0
  have hbA : ¬ LF s b := fun z => absurd hbl (Nat.not_lt.mpr z)
  obtain ⟨g, hg0, hg1, hg2, B, hgB⟩ := hn.2.2.1
  refine lv_aload_n hx hb dL_law_1005 rfl (lv_at hl 3 rfl) ?_
  refine lv_aload_n hx hb dL_law_1006 rfl (lv_at hl 4 rfl) ?_
  refine lv_iload hx hb dL_law_1007 (lv_at hl 0 rfl) ?_
  refine lv_iconst (v := 1) hx hb dL_law_1009 (by decide) ?_
  refine lv_iadd hx hb dL_law_1010 ?_
  refine zz_top (v := nI (i + 1)) (nI_add i 1) ?_
  refine va_sld hx hb hX hbl hbA hS (i := nI (i + 1)) (vp_in_nI (by omega) (by omega)) dL_law_1011 ?_
  refine lv_topi (fun v1 ev1 => ?_)
  refine va_calli (va_runV (As := [.int v1]) (rest := []) ⟨hx, hb, hml, hown, hts⟩ (x_X11_parted l dC dI ad E hEE A C nb H.size h.1.1 st sl so v1 hn.1.1) (cwV 1 hts gT_X11_parted_128 rfl rfl rfl (by decide +kernel) ⟨Nat.le_of_ble_eq_true rfl, Nat.le_of_ble_eq_true rfl⟩) ⟨fun a U g mk q => ⟨q.1, xPre.blind hEE q.2⟩, va_recv h.2.2.2.2.1 h.2.1 (ci := 10) (q0 := 0) rfl (xw_is (r := 0) (by omega) (xc_fix (r := 0) (by omega))), fun U hU hW => ⟨rfl, xPre.ofg hEE h.2.1 h.2.2.2.2.1 hE hS (h.fx hS) hU hW⟩⟩ rfl rfl hl.1 rfl (lv_room (Nat.le_of_ble_eq_true rfl)) dL_law_1012 ⟨by omega, by omega⟩) hS (fun q _ z => h.fx hS q z) (h.fx hS) (fun r3 x4 t2 H5 locs ht hvm hwx hB hz1 hk1 hS => ?_)
  have h := h.cx (xB.at ht hB) hk1
  clear hB hz1 hk1 ht hvm
  refine lv_pop hx hb dL_law_1015 rfl ?_
  refine lv_aload_n hx hb dL_law_1016 rfl (lv_at hl 2 rfl) ?_
  refine lv_aload_n hx hb dL_law_1017 rfl (lv_at hl 4 rfl) ?_
  refine lv_iload hx hb dL_law_1018 (lv_at hl 0 rfl) ?_
  refine lv_iconst (v := 1) hx hb dL_law_1020 (by decide) ?_
  refine lv_iadd hx hb dL_law_1021 ?_
  refine zz_top (v := nI (i + 1)) (nI_add i 1) ?_
  refine va_sld hx hb hX hbl hbA hS (i := nI (i + 1)) (vp_in_nI (by omega) (by omega)) dL_law_1022 ?_
  refine lv_topi (fun v6 ev6 => ?_)
  refine va_calli (va_runV (As := [.int v6]) (rest := []) ⟨hx, hb, hml, hown, hts⟩ (m_parted l dC dI ar cy H5.size h.1.2.1 st2 sl2 v6 hn.2.1.1) (cwV 1 hts gT_X12_parted_131 rfl rfl rfl (by decide +kernel) ⟨Nat.le_of_ble_eq_true rfl, Nat.le_of_ble_eq_true rfl⟩) ⟨fun a U g mk q => ⟨q.1, mPre.blind q.2⟩, va_recv h.2.2.2.2.2.1 h.2.2.1 (ci := 11) (q0 := 0) rfl rfl, fun U hU hW => ⟨rfl, mPre.of h.2.2.1 h.2.2.2.2.2.1 hU hW⟩⟩ rfl rfl hl.1 rfl (lv_room (Nat.le_of_ble_eq_true rfl)) dL_law_1023 ⟨by omega, by omega⟩) hS (fun q _ z => h.fm hS q z) (h.fm hS) (fun r8 x9 t7 H10 locs ht hvm hwm hB hz1 hk1 hS => ?_)
  have h := h.cm (mB.at ht hB) hk1
  clear hB hz1 hk1 ht hvm
  refine lv_pop hx hb dL_law_1026 rfl ?_
  refine lv_goto (tgt := 1393) hx hb dL_law_1027 (by decide) ?_
  obtain ⟨hM, hQ, hmf⟩ := hwm
  obtain ⟨hG, hLx, hso, hxf⟩ := hwx
  refine W.widen (k := nc + 5) (n := ns + 170) (by omega) (by omega) ?_
  exact kk _ _ _ _ _ _ _ _ _ _ _ rfl h ⟨⟨hG.1, by rw [hso]; exact hn.1.2.1, hn.1.2.2.1.mg hG (by decide), by rw [hso]; exact hn.1.2.2.2.mgs hG (by decide) (by decide)⟩, ⟨hM.1, hn.2.1.2.1.mg hM (by decide), hn.2.1.2.2.1.mg hM (by decide), hn.2.1.2.2.2.mg hM (by decide)⟩, hn.ct hG hM (by decide) (by decide) (by decide) (by decide), ⟨hn.ck hG hM (by decide) (by decide), ⟨hn.2.2.2.2.1.ni (NI.rf.mg hG (by decide) (by decide) hLx) hM (by decide) (by decide) hQ (by decide) (by decide), ((hG.2 0 16 (by decide)).trans hn.2.2.2.2.2).trans (hM.2 0 10 (by decide)).symm⟩⟩⟩ hS hl
set_option maxHeartbeats 4000000 in
set_option maxRecDepth 100000 in
theorem lc_partedGood {p : Program} {e : Env} {s : State} {m : MethodId} {below : List Frame} {meth : Method} {c : Code} (l : Launch) {b L : Nat} {xs : Nat → Int32} (hL : L ≤ 3072) (C0 : lw_At p s m meth c b L xs) (dC : Nat → ClassId) (dI : Nat → Nat → Nat) (ad : Nat → Nat) (E : EP) (hEE : EC ad E) (hE : E (LF s) s s.heap) {A : Nat → Nat} {C : Nat → ClassId} {nb : Nat} {st : Nat → Nat → Int32} {sl : Nat → Nat → Int64} {so : Nat → XR} {ar : Nat → Nat} {cy : Nat → ClassId} {st2 : Nat → Nat → Int32} {sl2 : Nat → Nat → Int64} {a0 o : Nat} {yo : ClassId} {H : Heap} {locs : List Loc} {ls : Array Slot} (i : Nat) (hi : i + 6 ≤ L) (hA0 : A 0 = a0) (h : LH dC dI s H A C nb st sl so ar cy st2 sl2 o yo) (hn : LN ad nb st sl so st2 sl2) (hS : va_S (LF s) s.heap H locs) (hl : lv_has ls 8 [(4, .int (nI i)), (3, .ref o), (2, .ref (ar 0)), (1, .ref a0), (0, .ref b)]) {nc ns : Nat} (h1 : nc + 5 ≤ room_1.cells) (h2 : ns + 170 ≤ room_1.slots) {Q : State → Prop} (kk : LK p l e s m b below meth c dC dI ad ar cy a0 o yo i (nc + 5) (ns + 170) 1393 Q) : W p l e room_1 s m #[Value.ref b] below meth c H locs nc ns Q (F0 m 1030 ls []) := by
  subst hA0
  obtain ⟨hx, hb, hr, hml, hown, hts, hX, hbl, hlocks, hgv⟩ := id C0
  have hbA : ¬ LF s b := fun z => absurd hbl (Nat.not_lt.mpr z)
  obtain ⟨g, hg0, hg1, hg2, B, hgB⟩ := hn.2.2.1
  refine lv_aload_n hx hb dL_law_1030 rfl (lv_at hl 3 rfl) ?_
  refine va_calli (va_runV (As := []) (rest := []) ⟨hx, hb, hml, hown, hts⟩ (x_X11_partedGood l dC dI ad E hEE A C nb H.size h.1.1 st sl so hn.1.1) (cwV 0 hts gT_X11_partedGood_132 rfl rfl rfl (by decide +kernel) ⟨Nat.le_of_ble_eq_true rfl, Nat.le_of_ble_eq_true rfl⟩) ⟨fun a U g mk q => ⟨q.1, xPre.blind hEE q.2⟩, va_recv h.2.2.2.2.1 h.2.1 (ci := 10) (q0 := 0) rfl (xw_is (r := 0) (by omega) (xc_fix (r := 0) (by omega))), fun U hU hW => ⟨rfl, xPre.ofg hEE h.2.1 h.2.2.2.2.1 hE hS (h.fx hS) hU hW⟩⟩ rfl rfl hl.1 rfl (lv_room (Nat.le_of_ble_eq_true rfl)) dL_law_1031 ⟨by omega, by omega⟩) hS (fun q _ z => h.fx hS q z) (h.fx hS) (fun r2 x3 t1 H4 locs ht hvm hwx hB hz1 hk1 hS => ?_)
  have h := h.cx (xB.at ht hB) hk1
  clear hB hz1 hk1 ht hvm
  refine lv_pop hx hb dL_law_1034 rfl ?_
  refine lv_aload_n hx hb dL_law_1035 rfl (lv_at hl 2 rfl) ?_
  refine va_calli (va_runV (As := []) (rest := []) ⟨hx, hb, hml, hown, hts⟩ (m_partedGood l dC dI ar cy H4.size h.1.2.1 st2 sl2 hn.2.1.1) (cwV 0 hts gT_X12_partedGood_135 rfl rfl rfl (by decide +kernel) ⟨Nat.le_of_ble_eq_true rfl, Nat.le_of_ble_eq_true rfl⟩) ⟨fun a U g mk q => ⟨q.1, mPre.blind q.2⟩, va_recv h.2.2.2.2.2.1 h.2.2.1 (ci := 11) (q0 := 0) rfl rfl, fun U hU hW => ⟨rfl, mPre.of h.2.2.1 h.2.2.2.2.2.1 hU hW⟩⟩ rfl rfl hl.1 rfl (lv_room (Nat.le_of_ble_eq_true rfl)) dL_law_1036 ⟨by omega, by omega⟩) hS (fun q _ z => h.fm hS q z) (h.fm hS) (fun r6 x7 t5 H8 locs ht hvm hwm hB hz1 hk1 hS => ?_)
  have h := h.cm (mB.at ht hB) hk1
  clear hB hz1 hk1 ht hvm
  refine lv_pop hx hb dL_law_1039 rfl ?_
  refine lv_goto (tgt := 1393) hx hb dL_law_1040 (by decide) ?_
  obtain ⟨hM, hQ, hmf⟩ := hwm
  obtain ⟨hG, hLx, hso, hxf⟩ := hwx
  refine W.widen (k := nc + 5) (n := ns + 170) (by omega) (by omega) ?_
  exact kk _ _ _ _ _ _ _ _ _ _ _ rfl h ⟨⟨hG.1, by rw [hso]; exact hn.1.2.1, hn.1.2.2.1.mg hG (by decide), by rw [hso]; exact hn.1.2.2.2.mgs hG (by decide) (by decide)⟩, ⟨hM.1, hn.2.1.2.1.mg hM (by decide), hn.2.1.2.2.1.mg hM (by decide), hn.2.1.2.2.2.mg hM (by decide)⟩, hn.ct hG hM (by decide) (by decide) (by decide) (by decide), ⟨hn.ck hG hM (by decide) (by decide), ⟨hn.2.2.2.2.1.ni (NI.rf.mg hG (by decide) (by decide) hLx) hM (by decide) (by decide) hQ (by decide) (by decide), ((hG.2 0 16 (by decide)).trans hn.2.2.2.2.2).trans (hM.2 0 10 (by decide)).symm⟩⟩⟩ hS hl
set_option maxHeartbeats 4000000 in
set_option maxRecDepth 100000 in
theorem lc_tracks {p : Program} {e : Env} {s : State} {m : MethodId} {below : List Frame} {meth : Method} {c : Code} (l : Launch) {b L : Nat} {xs : Nat → Int32} (hL : L ≤ 3072) (C0 : lw_At p s m meth c b L xs) (dC : Nat → ClassId) (dI : Nat → Nat → Nat) (ad : Nat → Nat) (E : EP) (hEE : EC ad E) (hE : E (LF s) s s.heap) {A : Nat → Nat} {C : Nat → ClassId} {nb : Nat} {st : Nat → Nat → Int32} {sl : Nat → Nat → Int64} {so : Nat → XR} {ar : Nat → Nat} {cy : Nat → ClassId} {st2 : Nat → Nat → Int32} {sl2 : Nat → Nat → Int64} {a0 o : Nat} {yo : ClassId} {H : Heap} {locs : List Loc} {ls : Array Slot} (i : Nat) (hi : i + 6 ≤ L) (hA0 : A 0 = a0) (h : LH dC dI s H A C nb st sl so ar cy st2 sl2 o yo) (hn : LN ad nb st sl so st2 sl2) (hS : va_S (LF s) s.heap H locs) (hl : lv_has ls 8 [(4, .int (nI i)), (3, .ref o), (2, .ref (ar 0)), (1, .ref a0), (0, .ref b)]) {nc ns : Nat} (h1 : nc + 5 ≤ room_1.cells) (h2 : ns + 170 ≤ room_1.slots) {Q : State → Prop} (kk : LK p l e s m b below meth c dC dI ad ar cy a0 o yo i (nc + 5) (ns + 170) 1393 Q) : W p l e room_1 s m #[Value.ref b] below meth c H locs nc ns Q (F0 m 1043 ls []) := by
  subst hA0
  obtain ⟨hx, hb, hr, hml, hown, hts, hX, hbl, hlocks, hgv⟩ := id C0
  have hbA : ¬ LF s b := fun z => absurd hbl (Nat.not_lt.mpr z)
  obtain ⟨g, hg0, hg1, hg2, B, hgB⟩ := hn.2.2.1
  refine lv_aload_n hx hb dL_law_1043 rfl (lv_at hl 3 rfl) ?_
  refine va_calli (va_runV (As := []) (rest := []) ⟨hx, hb, hml, hown, hts⟩ (x_X11_tracks l dC dI ad E hEE A C nb H.size h.1.1 st sl so hn.1.1) (cwV 0 hts gT_X11_tracks_136 rfl rfl rfl (by decide +kernel) ⟨Nat.le_of_ble_eq_true rfl, Nat.le_of_ble_eq_true rfl⟩) ⟨fun a U g mk q => ⟨q.1, xPre.blind hEE q.2⟩, va_recv h.2.2.2.2.1 h.2.1 (ci := 10) (q0 := 0) rfl (xw_is (r := 0) (by omega) (xc_fix (r := 0) (by omega))), fun U hU hW => ⟨rfl, xPre.ofg hEE h.2.1 h.2.2.2.2.1 hE hS (h.fx hS) hU hW⟩⟩ rfl rfl hl.1 rfl (lv_room (Nat.le_of_ble_eq_true rfl)) dL_law_1044 ⟨by omega, by omega⟩) hS (fun q _ z => h.fx hS q z) (h.fx hS) (fun r2 x3 t1 H4 locs ht hvm hwx hB hz1 hk1 hS => ?_)
  have h := h.cx (xB.at ht hB) hk1
  clear hB hz1 hk1 ht hvm
  refine lv_pop hx hb dL_law_1047 rfl ?_
  refine lv_aload_n hx hb dL_law_1048 rfl (lv_at hl 2 rfl) ?_
  refine va_calli (va_runV (As := []) (rest := []) ⟨hx, hb, hml, hown, hts⟩ (m_tracks l dC dI ar cy H4.size h.1.2.1 st2 sl2 hn.2.1.1) (cwV 0 hts gT_X12_tracks_139 rfl rfl rfl (by decide +kernel) ⟨Nat.le_of_ble_eq_true rfl, Nat.le_of_ble_eq_true rfl⟩) ⟨fun a U g mk q => ⟨q.1, mPre.blind q.2⟩, va_recv h.2.2.2.2.2.1 h.2.2.1 (ci := 11) (q0 := 0) rfl rfl, fun U hU hW => ⟨rfl, mPre.of h.2.2.1 h.2.2.2.2.2.1 hU hW⟩⟩ rfl rfl hl.1 rfl (lv_room (Nat.le_of_ble_eq_true rfl)) dL_law_1049 ⟨by omega, by omega⟩) hS (fun q _ z => h.fm hS q z) (h.fm hS) (fun r6 x7 t5 H8 locs ht hvm hwm hB hz1 hk1 hS => ?_)
  have h := h.cm (mB.at ht hB) hk1
  clear hB hz1 hk1 ht hvm
  refine lv_pop hx hb dL_law_1052 rfl ?_
  refine lv_goto (tgt := 1393) hx hb dL_law_1053 (by decide) ?_
  obtain ⟨hM, hQ, hmf⟩ := hwm
  obtain ⟨hG, hLx, hso, hxf⟩ := hwx
  refine W.widen (k := nc + 5) (n := ns + 170) (by omega) (by omega) ?_
  exact kk _ _ _ _ _ _ _ _ _ _ _ rfl h ⟨⟨hG.1, by rw [hso]; exact hn.1.2.1, hn.1.2.2.1.mg hG (by decide), by rw [hso]; exact hn.1.2.2.2.mgs hG (by decide) (by decide)⟩, ⟨hM.1, hn.2.1.2.1.mg hM (by decide), hn.2.1.2.2.1.mg hM (by decide), hn.2.1.2.2.2.mg hM (by decide)⟩, LN.cz hxf hmf, ⟨hn.ck hG hM (by decide) (by decide), ⟨hn.2.2.2.2.1.ni (NI.rf.mg hG (by decide) (by decide) hLx) hM (by decide) (by decide) hQ (by decide) (by decide), ((hG.2 0 16 (by decide)).trans hn.2.2.2.2.2).trans (hM.2 0 10 (by decide)).symm⟩⟩⟩ hS hl
set_option maxHeartbeats 4000000 in
set_option maxRecDepth 100000 in
theorem lc_votes {p : Program} {e : Env} {s : State} {m : MethodId} {below : List Frame} {meth : Method} {c : Code} (l : Launch) {b L : Nat} {xs : Nat → Int32} (hL : L ≤ 3072) (C0 : lw_At p s m meth c b L xs) (dC : Nat → ClassId) (dI : Nat → Nat → Nat) (ad : Nat → Nat) (E : EP) (hEE : EC ad E) (hE : E (LF s) s s.heap) {A : Nat → Nat} {C : Nat → ClassId} {nb : Nat} {st : Nat → Nat → Int32} {sl : Nat → Nat → Int64} {so : Nat → XR} {ar : Nat → Nat} {cy : Nat → ClassId} {st2 : Nat → Nat → Int32} {sl2 : Nat → Nat → Int64} {a0 o : Nat} {yo : ClassId} {H : Heap} {locs : List Loc} {ls : Array Slot} (i : Nat) (hi : i + 6 ≤ L) (hA0 : A 0 = a0) (h : LH dC dI s H A C nb st sl so ar cy st2 sl2 o yo) (hn : LN ad nb st sl so st2 sl2) (hS : va_S (LF s) s.heap H locs) (hl : lv_has ls 8 [(4, .int (nI i)), (3, .ref o), (2, .ref (ar 0)), (1, .ref a0), (0, .ref b)]) {nc ns : Nat} (h1 : nc + 5 ≤ room_1.cells) (h2 : ns + 170 ≤ room_1.slots) {Q : State → Prop} (kk : LK p l e s m b below meth c dC dI ad ar cy a0 o yo i (nc + 5) (ns + 170) 1393 Q) : W p l e room_1 s m #[Value.ref b] below meth c H locs nc ns Q (F0 m 1056 ls []) := by
  subst hA0
  obtain ⟨hx, hb, hr, hml, hown, hts, hX, hbl, hlocks, hgv⟩ := id C0
  have hbA : ¬ LF s b := fun z => absurd hbl (Nat.not_lt.mpr z)
  obtain ⟨g, hg0, hg1, hg2, B, hgB⟩ := hn.2.2.1
  refine lv_aload_n hx hb dL_law_1056 rfl (lv_at hl 3 rfl) ?_
  refine lv_aload_n hx hb dL_law_1057 rfl (lv_at hl 4 rfl) ?_
  refine lv_iload hx hb dL_law_1058 (lv_at hl 0 rfl) ?_
  refine lv_iconst (v := 1) hx hb dL_law_1060 (by decide) ?_
  refine lv_iadd hx hb dL_law_1061 ?_
  refine zz_top (v := nI (i + 1)) (nI_add i 1) ?_
  refine va_sld hx hb hX hbl hbA hS (i := nI (i + 1)) (vp_in_nI (by omega) (by omega)) dL_law_1062 ?_
  refine lv_topi (fun v1 ev1 => ?_)
  refine va_calli (va_runV (As := [.int v1]) (rest := []) ⟨hx, hb, hml, hown, hts⟩ (x_X11_votes l dC dI ad E hEE A C nb H.size h.1.1 st sl so v1 hn.1.1) (cwV 1 hts gT_X11_votes_140 rfl rfl rfl (by decide +kernel) ⟨Nat.le_of_ble_eq_true rfl, Nat.le_of_ble_eq_true rfl⟩) ⟨fun a U g mk q => ⟨q.1, xPre.blind hEE q.2⟩, va_recv h.2.2.2.2.1 h.2.1 (ci := 10) (q0 := 0) rfl (xw_is (r := 0) (by omega) (xc_fix (r := 0) (by omega))), fun U hU hW => ⟨rfl, xPre.ofg hEE h.2.1 h.2.2.2.2.1 hE hS (h.fx hS) hU hW⟩⟩ rfl rfl hl.1 rfl (lv_room (Nat.le_of_ble_eq_true rfl)) dL_law_1063 ⟨by omega, by omega⟩) hS (fun q _ z => h.fx hS q z) (h.fx hS) (fun r3 x4 t2 H5 locs ht hvm hwx hB hz1 hk1 hS => ?_)
  have h := h.cx (xB.at ht hB) hk1
  clear hB hz1 hk1 ht hvm
  refine lv_pop hx hb dL_law_1066 rfl ?_
  refine lv_aload_n hx hb dL_law_1067 rfl (lv_at hl 2 rfl) ?_
  refine lv_aload_n hx hb dL_law_1068 rfl (lv_at hl 4 rfl) ?_
  refine lv_iload hx hb dL_law_1069 (lv_at hl 0 rfl) ?_
  refine lv_iconst (v := 1) hx hb dL_law_1071 (by decide) ?_
  refine lv_iadd hx hb dL_law_1072 ?_
  refine zz_top (v := nI (i + 1)) (nI_add i 1) ?_
  refine va_sld hx hb hX hbl hbA hS (i := nI (i + 1)) (vp_in_nI (by omega) (by omega)) dL_law_1073 ?_
  refine lv_topi (fun v6 ev6 => ?_)
  refine va_calli (va_runV (As := [.int v6]) (rest := []) ⟨hx, hb, hml, hown, hts⟩ (m_votes l dC dI ar cy H5.size h.1.2.1 st2 sl2 v6 hn.2.1.1) (cwV 1 hts gT_X12_votes_143 rfl rfl rfl (by decide +kernel) ⟨Nat.le_of_ble_eq_true rfl, Nat.le_of_ble_eq_true rfl⟩) ⟨fun a U g mk q => ⟨q.1, mPre.blind q.2⟩, va_recv h.2.2.2.2.2.1 h.2.2.1 (ci := 11) (q0 := 0) rfl rfl, fun U hU hW => ⟨rfl, mPre.of h.2.2.1 h.2.2.2.2.2.1 hU hW⟩⟩ rfl rfl hl.1 rfl (lv_room (Nat.le_of_ble_eq_true rfl)) dL_law_1074 ⟨by omega, by omega⟩) hS (fun q _ z => h.fm hS q z) (h.fm hS) (fun r8 x9 t7 H10 locs ht hvm hwm hB hz1 hk1 hS => ?_)
  have h := h.cm (mB.at ht hB) hk1
  clear hB hz1 hk1 ht hvm
  refine lv_pop hx hb dL_law_1077 rfl ?_
  refine lv_goto (tgt := 1393) hx hb dL_law_1078 (by decide) ?_
  obtain ⟨hM, hQ, hmf⟩ := hwm
  obtain ⟨hG, hLx, hso, hxf⟩ := hwx
  refine W.widen (k := nc + 5) (n := ns + 170) (by omega) (by omega) ?_
  exact kk _ _ _ _ _ _ _ _ _ _ _ rfl h ⟨⟨hG.1, by rw [hso]; exact hn.1.2.1, hn.1.2.2.1.mg hG (by decide), by rw [hso]; exact hn.1.2.2.2.mgs hG (by decide) (by decide)⟩, ⟨hM.1, hn.2.1.2.1.mg hM (by decide), hn.2.1.2.2.1.mg hM (by decide), hn.2.1.2.2.2.mg hM (by decide)⟩, hn.ct hG hM (by decide) (by decide) (by decide) (by decide), ⟨hn.ck hG hM (by decide) (by decide), ⟨hn.2.2.2.2.1.ni (NI.rf.mg hG (by decide) (by decide) hLx) hM (by decide) (by decide) hQ (by decide) (by decide), ((hG.2 0 16 (by decide)).trans hn.2.2.2.2.2).trans (hM.2 0 10 (by decide)).symm⟩⟩⟩ hS hl
set_option maxHeartbeats 4000000 in
set_option maxRecDepth 100000 in
theorem lc_against {p : Program} {e : Env} {s : State} {m : MethodId} {below : List Frame} {meth : Method} {c : Code} (l : Launch) {b L : Nat} {xs : Nat → Int32} (hL : L ≤ 3072) (C0 : lw_At p s m meth c b L xs) (dC : Nat → ClassId) (dI : Nat → Nat → Nat) (ad : Nat → Nat) (E : EP) (hEE : EC ad E) (hE : E (LF s) s s.heap) {A : Nat → Nat} {C : Nat → ClassId} {nb : Nat} {st : Nat → Nat → Int32} {sl : Nat → Nat → Int64} {so : Nat → XR} {ar : Nat → Nat} {cy : Nat → ClassId} {st2 : Nat → Nat → Int32} {sl2 : Nat → Nat → Int64} {a0 o : Nat} {yo : ClassId} {H : Heap} {locs : List Loc} {ls : Array Slot} (i : Nat) (hi : i + 6 ≤ L) (hA0 : A 0 = a0) (h : LH dC dI s H A C nb st sl so ar cy st2 sl2 o yo) (hn : LN ad nb st sl so st2 sl2) (hS : va_S (LF s) s.heap H locs) (hl : lv_has ls 8 [(4, .int (nI i)), (3, .ref o), (2, .ref (ar 0)), (1, .ref a0), (0, .ref b)]) {nc ns : Nat} (h1 : nc + 5 ≤ room_1.cells) (h2 : ns + 170 ≤ room_1.slots) {Q : State → Prop} (kk : LK p l e s m b below meth c dC dI ad ar cy a0 o yo i (nc + 5) (ns + 170) 1393 Q) : W p l e room_1 s m #[Value.ref b] below meth c H locs nc ns Q (F0 m 1081 ls []) := by
  subst hA0
  obtain ⟨hx, hb, hr, hml, hown, hts, hX, hbl, hlocks, hgv⟩ := id C0
  have hbA : ¬ LF s b := fun z => absurd hbl (Nat.not_lt.mpr z)
  obtain ⟨g, hg0, hg1, hg2, B, hgB⟩ := hn.2.2.1
  refine lv_aload_n hx hb dL_law_1081 rfl (lv_at hl 3 rfl) ?_
  refine lv_aload_n hx hb dL_law_1082 rfl (lv_at hl 4 rfl) ?_
  refine lv_iload hx hb dL_law_1083 (lv_at hl 0 rfl) ?_
  refine lv_iconst (v := 1) hx hb dL_law_1085 (by decide) ?_
  refine lv_iadd hx hb dL_law_1086 ?_
  refine zz_top (v := nI (i + 1)) (nI_add i 1) ?_
  refine va_sld hx hb hX hbl hbA hS (i := nI (i + 1)) (vp_in_nI (by omega) (by omega)) dL_law_1087 ?_
  refine lv_topi (fun v1 ev1 => ?_)
  refine va_calli (va_runV (As := [.int v1]) (rest := []) ⟨hx, hb, hml, hown, hts⟩ (x_X11_against l dC dI ad E hEE A C nb H.size h.1.1 st sl so v1 hn.1.1) (cwV 1 hts gT_X11_against_144 rfl rfl rfl (by decide +kernel) ⟨Nat.le_of_ble_eq_true rfl, Nat.le_of_ble_eq_true rfl⟩) ⟨fun a U g mk q => ⟨q.1, xPre.blind hEE q.2⟩, va_recv h.2.2.2.2.1 h.2.1 (ci := 10) (q0 := 0) rfl (xw_is (r := 0) (by omega) (xc_fix (r := 0) (by omega))), fun U hU hW => ⟨rfl, xPre.ofg hEE h.2.1 h.2.2.2.2.1 hE hS (h.fx hS) hU hW⟩⟩ rfl rfl hl.1 rfl (lv_room (Nat.le_of_ble_eq_true rfl)) dL_law_1088 ⟨by omega, by omega⟩) hS (fun q _ z => h.fx hS q z) (h.fx hS) (fun r3 x4 t2 H5 locs ht hvm hwx hB hz1 hk1 hS => ?_)
  have h := h.cx (xB.at ht hB) hk1
  clear hB hz1 hk1 ht hvm
  refine lv_pop hx hb dL_law_1091 rfl ?_
  refine lv_aload_n hx hb dL_law_1092 rfl (lv_at hl 2 rfl) ?_
  refine lv_aload_n hx hb dL_law_1093 rfl (lv_at hl 4 rfl) ?_
  refine lv_iload hx hb dL_law_1094 (lv_at hl 0 rfl) ?_
  refine lv_iconst (v := 1) hx hb dL_law_1096 (by decide) ?_
  refine lv_iadd hx hb dL_law_1097 ?_
  refine zz_top (v := nI (i + 1)) (nI_add i 1) ?_
  refine va_sld hx hb hX hbl hbA hS (i := nI (i + 1)) (vp_in_nI (by omega) (by omega)) dL_law_1098 ?_
  refine lv_topi (fun v6 ev6 => ?_)
  refine va_calli (va_runV (As := [.int v6]) (rest := []) ⟨hx, hb, hml, hown, hts⟩ (m_against l dC dI ar cy H5.size h.1.2.1 st2 sl2 v6 hn.2.1.1) (cwV 1 hts gT_X12_against_147 rfl rfl rfl (by decide +kernel) ⟨Nat.le_of_ble_eq_true rfl, Nat.le_of_ble_eq_true rfl⟩) ⟨fun a U g mk q => ⟨q.1, mPre.blind q.2⟩, va_recv h.2.2.2.2.2.1 h.2.2.1 (ci := 11) (q0 := 0) rfl rfl, fun U hU hW => ⟨rfl, mPre.of h.2.2.1 h.2.2.2.2.2.1 hU hW⟩⟩ rfl rfl hl.1 rfl (lv_room (Nat.le_of_ble_eq_true rfl)) dL_law_1099 ⟨by omega, by omega⟩) hS (fun q _ z => h.fm hS q z) (h.fm hS) (fun r8 x9 t7 H10 locs ht hvm hwm hB hz1 hk1 hS => ?_)
  have h := h.cm (mB.at ht hB) hk1
  clear hB hz1 hk1 ht hvm
  refine lv_pop hx hb dL_law_1102 rfl ?_
  refine lv_goto (tgt := 1393) hx hb dL_law_1103 (by decide) ?_
  obtain ⟨hM, hQ, hmf⟩ := hwm
  obtain ⟨hG, hLx, hso, hxf⟩ := hwx
  refine W.widen (k := nc + 5) (n := ns + 170) (by omega) (by omega) ?_
  exact kk _ _ _ _ _ _ _ _ _ _ _ rfl h ⟨⟨hG.1, by rw [hso]; exact hn.1.2.1, hn.1.2.2.1.mg hG (by decide), by rw [hso]; exact hn.1.2.2.2.mgs hG (by decide) (by decide)⟩, ⟨hM.1, hn.2.1.2.1.mg hM (by decide), hn.2.1.2.2.1.mg hM (by decide), hn.2.1.2.2.2.mg hM (by decide)⟩, hn.ct hG hM (by decide) (by decide) (by decide) (by decide), ⟨hn.ck hG hM (by decide) (by decide), ⟨hn.2.2.2.2.1.ni (NI.rf.mg hG (by decide) (by decide) hLx) hM (by decide) (by decide) hQ (by decide) (by decide), ((hG.2 0 16 (by decide)).trans hn.2.2.2.2.2).trans (hM.2 0 10 (by decide)).symm⟩⟩⟩ hS hl
set_option maxHeartbeats 4000000 in
set_option maxRecDepth 100000 in
theorem lc_missed {p : Program} {e : Env} {s : State} {m : MethodId} {below : List Frame} {meth : Method} {c : Code} (l : Launch) {b L : Nat} {xs : Nat → Int32} (hL : L ≤ 3072) (C0 : lw_At p s m meth c b L xs) (dC : Nat → ClassId) (dI : Nat → Nat → Nat) (ad : Nat → Nat) (E : EP) (hEE : EC ad E) (hE : E (LF s) s s.heap) {A : Nat → Nat} {C : Nat → ClassId} {nb : Nat} {st : Nat → Nat → Int32} {sl : Nat → Nat → Int64} {so : Nat → XR} {ar : Nat → Nat} {cy : Nat → ClassId} {st2 : Nat → Nat → Int32} {sl2 : Nat → Nat → Int64} {a0 o : Nat} {yo : ClassId} {H : Heap} {locs : List Loc} {ls : Array Slot} (i : Nat) (hi : i + 6 ≤ L) (hA0 : A 0 = a0) (h : LH dC dI s H A C nb st sl so ar cy st2 sl2 o yo) (hn : LN ad nb st sl so st2 sl2) (hS : va_S (LF s) s.heap H locs) (hl : lv_has ls 8 [(4, .int (nI i)), (3, .ref o), (2, .ref (ar 0)), (1, .ref a0), (0, .ref b)]) {nc ns : Nat} (h1 : nc + 5 ≤ room_1.cells) (h2 : ns + 170 ≤ room_1.slots) {Q : State → Prop} (kk : LK p l e s m b below meth c dC dI ad ar cy a0 o yo i (nc + 5) (ns + 170) 1393 Q) : W p l e room_1 s m #[Value.ref b] below meth c H locs nc ns Q (F0 m 1106 ls []) := by
  subst hA0
  obtain ⟨hx, hb, hr, hml, hown, hts, hX, hbl, hlocks, hgv⟩ := id C0
  have hbA : ¬ LF s b := fun z => absurd hbl (Nat.not_lt.mpr z)
  obtain ⟨g, hg0, hg1, hg2, B, hgB⟩ := hn.2.2.1
  refine lv_aload_n hx hb dL_law_1106 rfl (lv_at hl 3 rfl) ?_
  refine lv_aload_n hx hb dL_law_1107 rfl (lv_at hl 4 rfl) ?_
  refine lv_iload hx hb dL_law_1108 (lv_at hl 0 rfl) ?_
  refine lv_iconst (v := 1) hx hb dL_law_1110 (by decide) ?_
  refine lv_iadd hx hb dL_law_1111 ?_
  refine zz_top (v := nI (i + 1)) (nI_add i 1) ?_
  refine va_sld hx hb hX hbl hbA hS (i := nI (i + 1)) (vp_in_nI (by omega) (by omega)) dL_law_1112 ?_
  refine lv_topi (fun v1 ev1 => ?_)
  refine va_calli (va_runV (As := [.int v1]) (rest := []) ⟨hx, hb, hml, hown, hts⟩ (x_X11_missed l dC dI ad E hEE A C nb H.size h.1.1 st sl so v1 hn.1.1) (cwV 1 hts gT_X11_missed_148 rfl rfl rfl (by decide +kernel) ⟨Nat.le_of_ble_eq_true rfl, Nat.le_of_ble_eq_true rfl⟩) ⟨fun a U g mk q => ⟨q.1, xPre.blind hEE q.2⟩, va_recv h.2.2.2.2.1 h.2.1 (ci := 10) (q0 := 0) rfl (xw_is (r := 0) (by omega) (xc_fix (r := 0) (by omega))), fun U hU hW => ⟨rfl, xPre.ofg hEE h.2.1 h.2.2.2.2.1 hE hS (h.fx hS) hU hW⟩⟩ rfl rfl hl.1 rfl (lv_room (Nat.le_of_ble_eq_true rfl)) dL_law_1113 ⟨by omega, by omega⟩) hS (fun q _ z => h.fx hS q z) (h.fx hS) (fun r3 x4 t2 H5 locs ht hvm hwx hB hz1 hk1 hS => ?_)
  have h := h.cx (xB.at ht hB) hk1
  clear hB hz1 hk1 ht hvm
  refine lv_pop hx hb dL_law_1116 rfl ?_
  refine lv_aload_n hx hb dL_law_1117 rfl (lv_at hl 2 rfl) ?_
  refine lv_aload_n hx hb dL_law_1118 rfl (lv_at hl 4 rfl) ?_
  refine lv_iload hx hb dL_law_1119 (lv_at hl 0 rfl) ?_
  refine lv_iconst (v := 1) hx hb dL_law_1121 (by decide) ?_
  refine lv_iadd hx hb dL_law_1122 ?_
  refine zz_top (v := nI (i + 1)) (nI_add i 1) ?_
  refine va_sld hx hb hX hbl hbA hS (i := nI (i + 1)) (vp_in_nI (by omega) (by omega)) dL_law_1123 ?_
  refine lv_topi (fun v6 ev6 => ?_)
  refine va_calli (va_runV (As := [.int v6]) (rest := []) ⟨hx, hb, hml, hown, hts⟩ (m_missed l dC dI ar cy H5.size h.1.2.1 st2 sl2 v6 hn.2.1.1) (cwV 1 hts gT_X12_missed_151 rfl rfl rfl (by decide +kernel) ⟨Nat.le_of_ble_eq_true rfl, Nat.le_of_ble_eq_true rfl⟩) ⟨fun a U g mk q => ⟨q.1, mPre.blind q.2⟩, va_recv h.2.2.2.2.2.1 h.2.2.1 (ci := 11) (q0 := 0) rfl rfl, fun U hU hW => ⟨rfl, mPre.of h.2.2.1 h.2.2.2.2.2.1 hU hW⟩⟩ rfl rfl hl.1 rfl (lv_room (Nat.le_of_ble_eq_true rfl)) dL_law_1124 ⟨by omega, by omega⟩) hS (fun q _ z => h.fm hS q z) (h.fm hS) (fun r8 x9 t7 H10 locs ht hvm hwm hB hz1 hk1 hS => ?_)
  have h := h.cm (mB.at ht hB) hk1
  clear hB hz1 hk1 ht hvm
  refine lv_pop hx hb dL_law_1127 rfl ?_
  refine lv_goto (tgt := 1393) hx hb dL_law_1128 (by decide) ?_
  obtain ⟨hM, hQ, hmf⟩ := hwm
  obtain ⟨hG, hLx, hso, hxf⟩ := hwx
  refine W.widen (k := nc + 5) (n := ns + 170) (by omega) (by omega) ?_
  exact kk _ _ _ _ _ _ _ _ _ _ _ rfl h ⟨⟨hG.1, by rw [hso]; exact hn.1.2.1, hn.1.2.2.1.mg hG (by decide), by rw [hso]; exact hn.1.2.2.2.mgs hG (by decide) (by decide)⟩, ⟨hM.1, hn.2.1.2.1.mg hM (by decide), hn.2.1.2.2.1.mg hM (by decide), hn.2.1.2.2.2.mg hM (by decide)⟩, hn.ct hG hM (by decide) (by decide) (by decide) (by decide), ⟨hn.ck hG hM (by decide) (by decide), ⟨hn.2.2.2.2.1.ni (NI.rf.mg hG (by decide) (by decide) hLx) hM (by decide) (by decide) hQ (by decide) (by decide), ((hG.2 0 16 (by decide)).trans hn.2.2.2.2.2).trans (hM.2 0 10 (by decide)).symm⟩⟩⟩ hS hl
set_option maxHeartbeats 4000000 in
set_option maxRecDepth 100000 in
theorem lc_board {p : Program} {e : Env} {s : State} {m : MethodId} {below : List Frame} {meth : Method} {c : Code} (l : Launch) {b L : Nat} {xs : Nat → Int32} (hL : L ≤ 3072) (C0 : lw_At p s m meth c b L xs) (dC : Nat → ClassId) (dI : Nat → Nat → Nat) (ad : Nat → Nat) (E : EP) (hEE : EC ad E) (hE : E (LF s) s s.heap) {A : Nat → Nat} {C : Nat → ClassId} {nb : Nat} {st : Nat → Nat → Int32} {sl : Nat → Nat → Int64} {so : Nat → XR} {ar : Nat → Nat} {cy : Nat → ClassId} {st2 : Nat → Nat → Int32} {sl2 : Nat → Nat → Int64} {a0 o : Nat} {yo : ClassId} {H : Heap} {locs : List Loc} {ls : Array Slot} (i : Nat) (hi : i + 6 ≤ L) (hA0 : A 0 = a0) (h : LH dC dI s H A C nb st sl so ar cy st2 sl2 o yo) (hn : LN ad nb st sl so st2 sl2) (hS : va_S (LF s) s.heap H locs) (hl : lv_has ls 8 [(4, .int (nI i)), (3, .ref o), (2, .ref (ar 0)), (1, .ref a0), (0, .ref b)]) {nc ns : Nat} (h1 : nc + 5 ≤ room_1.cells) (h2 : ns + 170 ≤ room_1.slots) {Q : State → Prop} (kk : LK p l e s m b below meth c dC dI ad ar cy a0 o yo i (nc + 5) (ns + 170) 1393 Q) : W p l e room_1 s m #[Value.ref b] below meth c H locs nc ns Q (F0 m 1131 ls []) := by
  subst hA0
  obtain ⟨hx, hb, hr, hml, hown, hts, hX, hbl, hlocks, hgv⟩ := id C0
  have hbA : ¬ LF s b := fun z => absurd hbl (Nat.not_lt.mpr z)
  have hts6 := lw6 hts
  have hS0 := hS
  obtain ⟨g, hg0, hg1, hg2, B, hgB⟩ := hn.2.2.1
  refine lv_aload_n hx hb dL_law_1131 rfl (lv_at hl 3 rfl) ?_
  refine lv_aload_n hx hb dL_law_1132 rfl (lv_at hl 4 rfl) ?_
  refine lv_iload hx hb dL_law_1133 (lv_at hl 0 rfl) ?_
  refine lv_iconst (v := 1) hx hb dL_law_1135 (by decide) ?_
  refine lv_iadd hx hb dL_law_1136 ?_
  refine zz_top (v := nI (i + 1)) (nI_add i 1) ?_
  refine va_sld hx hb hX hbl hbA hS (i := nI (i + 1)) (vp_in_nI (by omega) (by omega)) dL_law_1137 ?_
  refine lv_topi (fun v1 ev1 => ?_)
  refine va_calli (va_runV (As := [.int v1]) (rest := []) ⟨hx, hb, hml, hown, hts6⟩ (x_X11_board l dC dI ad E hEE A C nb H.size h.1.1 st sl so v1 hn.1.1 hn.1.2.2.1) (cwV 1 hts6 gT_X11_board_152 rfl rfl rfl (by decide +kernel) ⟨Nat.le_of_ble_eq_true rfl, Nat.le_of_ble_eq_true rfl⟩) ⟨fun a U g mk q => ⟨q.1, xPre.blind hEE q.2⟩, va_recv h.2.2.2.2.1 h.2.1 (ci := 10) (q0 := 0) rfl (xw_is (r := 0) (by omega) (xc_fix (r := 0) (by omega))), fun U hU hW => ⟨rfl, xPre.ofg hEE h.2.1 h.2.2.2.2.1 hE hS (h.fx hS) hU hW⟩⟩ rfl rfl hl.1 rfl (lv_room (Nat.le_of_ble_eq_true rfl)) dL_law_1138 ⟨by omega, by omega⟩) hS (fun q _ z => h.fx hS q z) (h.fx hS) (fun r3 x4 t2 H5 locs ht hvm hwx hB hz1 hk1 hS => ?_)
  have BR0 := hB.2.2.2.1
  have h := h.cb hS0 (xB.at ht hB.1) (va_K.moved hvm.symm hB.2.1) hB.2.2.1 hB.2.2.2 hk1
  clear hB hz1 hk1 ht hvm
  refine lv_pop hx hb dL_law_1141 rfl ?_
  refine lv_aload_n hx hb dL_law_1142 rfl (lv_at hl 2 rfl) ?_
  refine lv_aload_n hx hb dL_law_1143 rfl (lv_at hl 4 rfl) ?_
  refine lv_iload hx hb dL_law_1144 (lv_at hl 0 rfl) ?_
  refine lv_iconst (v := 1) hx hb dL_law_1146 (by decide) ?_
  refine lv_iadd hx hb dL_law_1147 ?_
  refine zz_top (v := nI (i + 1)) (nI_add i 1) ?_
  refine va_sld hx hb hX hbl hbA hS (i := nI (i + 1)) (vp_in_nI (by omega) (by omega)) dL_law_1148 ?_
  refine lv_topi (fun v6 ev6 => ?_)
  refine va_calli (va_runV (As := [.int v6]) (rest := []) ⟨hx, hb, hml, hown, hts⟩ (m_board l dC dI ar cy H5.size h.1.2.1 st2 sl2 v6 hn.2.1.1) (cwV 1 hts gT_X12_board_155 rfl rfl rfl (by decide +kernel) ⟨Nat.le_of_ble_eq_true rfl, Nat.le_of_ble_eq_true rfl⟩) ⟨fun a U g mk q => ⟨q.1, mPre.blind q.2⟩, va_recv h.2.2.2.2.2.1 h.2.2.1 (ci := 11) (q0 := 0) rfl rfl, fun U hU hW => ⟨rfl, mPre.of h.2.2.1 h.2.2.2.2.2.1 hU hW⟩⟩ rfl rfl hl.1 rfl (lv_room (Nat.le_of_ble_eq_true rfl)) dL_law_1149 ⟨by omega, by omega⟩) hS (fun q _ z => h.fm hS q z) (h.fm hS) (fun r8 x9 t7 H10 locs ht hvm hwm hB hz1 hk1 hS => ?_)
  have h := h.cm (mB.at ht hB) hk1
  clear hB hz1 hk1 ht hvm
  refine lv_pop hx hb dL_law_1152 rfl ?_
  refine lv_goto (tgt := 1393) hx hb dL_law_1153 (by decide) ?_
  obtain ⟨hM, hQ, hmf⟩ := hwm
  obtain ⟨hG, hLx, hso, hbd⟩ := hwx
  refine W.widen (k := nc + 5) (n := ns + 170) (by omega) (by omega) ?_
  exact kk _ _ _ _ _ _ _ _ _ _ _ (BR0 0 (by omega)) h ⟨⟨hG.1, by rw [hso]; exact hn.1.2.1, hbd, by rw [hso]; exact hn.1.2.2.2.mgs hG (by decide) (by decide)⟩, ⟨hM.1, hn.2.1.2.1.mg hM (by decide), hn.2.1.2.2.1.mg hM (by decide), hn.2.1.2.2.2.mg hM (by decide)⟩, hn.ct hG hM (by decide) (by decide) (by decide) (by decide), ⟨hn.ck hG hM (by decide) (by decide), ⟨hn.2.2.2.2.1.ni (NI.rf.mg hG (by decide) (by decide) hLx) hM (by decide) (by decide) hQ (by decide) (by decide), ((hG.2 0 16 (by decide)).trans hn.2.2.2.2.2).trans (hM.2 0 10 (by decide)).symm⟩⟩⟩ hS hl
set_option maxHeartbeats 4000000 in
set_option maxRecDepth 100000 in
theorem lc_byteAt {p : Program} {e : Env} {s : State} {m : MethodId} {below : List Frame} {meth : Method} {c : Code} (l : Launch) {b L : Nat} {xs : Nat → Int32} (hL : L ≤ 3072) (C0 : lw_At p s m meth c b L xs) (dC : Nat → ClassId) (dI : Nat → Nat → Nat) (ad : Nat → Nat) (E : EP) (hEE : EC ad E) (hE : E (LF s) s s.heap) {A : Nat → Nat} {C : Nat → ClassId} {nb : Nat} {st : Nat → Nat → Int32} {sl : Nat → Nat → Int64} {so : Nat → XR} {ar : Nat → Nat} {cy : Nat → ClassId} {st2 : Nat → Nat → Int32} {sl2 : Nat → Nat → Int64} {a0 o : Nat} {yo : ClassId} {H : Heap} {locs : List Loc} {ls : Array Slot} (i : Nat) (hi : i + 6 ≤ L) (hA0 : A 0 = a0) (h : LH dC dI s H A C nb st sl so ar cy st2 sl2 o yo) (hn : LN ad nb st sl so st2 sl2) (hS : va_S (LF s) s.heap H locs) (hl : lv_has ls 8 [(4, .int (nI i)), (3, .ref o), (2, .ref (ar 0)), (1, .ref a0), (0, .ref b)]) {nc ns : Nat} (h1 : nc + 5 ≤ room_1.cells) (h2 : ns + 170 ≤ room_1.slots) {Q : State → Prop} (kk : LK p l e s m b below meth c dC dI ad ar cy a0 o yo i (nc + 5) (ns + 170) 1393 Q) : W p l e room_1 s m #[Value.ref b] below meth c H locs nc ns Q (F0 m 1156 ls []) := by
  subst hA0
  obtain ⟨hx, hb, hr, hml, hown, hts, hX, hbl, hlocks, hgv⟩ := id C0
  have hbA : ¬ LF s b := fun z => absurd hbl (Nat.not_lt.mpr z)
  obtain ⟨g, hg0, hg1, hg2, B, hgB⟩ := hn.2.2.1
  refine lv_aload_n hx hb dL_law_1156 rfl (lv_at hl 3 rfl) ?_
  refine lv_aload_n hx hb dL_law_1157 rfl (lv_at hl 4 rfl) ?_
  refine lv_iload hx hb dL_law_1158 (lv_at hl 0 rfl) ?_
  refine lv_iconst (v := 1) hx hb dL_law_1160 (by decide) ?_
  refine lv_iadd hx hb dL_law_1161 ?_
  refine zz_top (v := nI (i + 1)) (nI_add i 1) ?_
  refine va_sld hx hb hX hbl hbA hS (i := nI (i + 1)) (vp_in_nI (by omega) (by omega)) dL_law_1162 ?_
  refine lv_topi (fun v1 ev1 => ?_)
  refine va_calli (va_runV (As := [.int v1]) (rest := []) ⟨hx, hb, hml, hown, hts⟩ (x_X11_byteAt2 l dC dI ad E hEE A C nb H.size h.1.1 st sl so v1 hn.1.1 hn.1.2.2.1) (cwV 1 hts gT_X11_byteAt_156 rfl rfl rfl (by decide +kernel) ⟨Nat.le_of_ble_eq_true rfl, Nat.le_of_ble_eq_true rfl⟩) ⟨fun a U g mk q => ⟨q.1, xPre.blind hEE q.2⟩, va_recv h.2.2.2.2.1 h.2.1 (ci := 10) (q0 := 0) rfl (xw_is (r := 0) (by omega) (xc_fix (r := 0) (by omega))), fun U hU hW => ⟨rfl, xPre.ofg hEE h.2.1 h.2.2.2.2.1 hE hS (h.fx hS) hU hW⟩⟩ rfl rfl hl.1 rfl (lv_room (Nat.le_of_ble_eq_true rfl)) dL_law_1163 ⟨by omega, by omega⟩) hS (fun q _ z => h.fx hS q z) (h.fx hS) (fun r3 x4 t2 H5 locs ht hvm hwx hB hz1 hk1 hS => ?_)
  have h := h.cx (xB.at ht hB) hk1
  clear hB hz1 hk1 ht hvm
  refine lv_pop hx hb dL_law_1166 rfl ?_
  refine lv_aload_n hx hb dL_law_1167 rfl (lv_at hl 2 rfl) ?_
  refine lv_aload_n hx hb dL_law_1168 rfl (lv_at hl 4 rfl) ?_
  refine lv_iload hx hb dL_law_1169 (lv_at hl 0 rfl) ?_
  refine lv_iconst (v := 1) hx hb dL_law_1171 (by decide) ?_
  refine lv_iadd hx hb dL_law_1172 ?_
  refine zz_top (v := nI (i + 1)) (nI_add i 1) ?_
  refine va_sld hx hb hX hbl hbA hS (i := nI (i + 1)) (vp_in_nI (by omega) (by omega)) dL_law_1173 ?_
  refine lv_topi (fun v6 ev6 => ?_)
  refine va_calli (va_runV (As := [.int v6]) (rest := []) ⟨hx, hb, hml, hown, hts⟩ (m_byteAt l dC dI ar cy H5.size h.1.2.1 st2 sl2 v6 hn.2.1.1) (cwV 1 hts gT_X12_byteAt_159 rfl rfl rfl (by decide +kernel) ⟨Nat.le_of_ble_eq_true rfl, Nat.le_of_ble_eq_true rfl⟩) ⟨fun a U g mk q => ⟨q.1, mPre.blind q.2⟩, va_recv h.2.2.2.2.2.1 h.2.2.1 (ci := 11) (q0 := 0) rfl rfl, fun U hU hW => ⟨rfl, mPre.of h.2.2.1 h.2.2.2.2.2.1 hU hW⟩⟩ rfl rfl hl.1 rfl (lv_room (Nat.le_of_ble_eq_true rfl)) dL_law_1174 ⟨by omega, by omega⟩) hS (fun q _ z => h.fm hS q z) (h.fm hS) (fun r8 x9 t7 H10 locs ht hvm hwm hB hz1 hk1 hS => ?_)
  have h := h.cm (mB.at ht hB) hk1
  clear hB hz1 hk1 ht hvm
  refine lv_pop hx hb dL_law_1177 rfl ?_
  refine lv_goto (tgt := 1393) hx hb dL_law_1178 (by decide) ?_
  obtain ⟨hM, hQ, hmf⟩ := hwm
  obtain ⟨hG, hLx, hso, hxf⟩ := hwx
  refine W.widen (k := nc + 5) (n := ns + 170) (by omega) (by omega) ?_
  exact kk _ _ _ _ _ _ _ _ _ _ _ rfl h ⟨⟨hG.1, by rw [hso]; exact hn.1.2.1, hxf, by rw [hso]; exact hn.1.2.2.2.mgs hG (by decide) (by decide)⟩, ⟨hM.1, hn.2.1.2.1.mg hM (by decide), hn.2.1.2.2.1.mg hM (by decide), hn.2.1.2.2.2.mg hM (by decide)⟩, hn.ct hG hM (by decide) (by decide) (by decide) (by decide), ⟨hn.ck hG hM (by decide) (by decide), ⟨hn.2.2.2.2.1.ni (NI.rf.mg hG (by decide) (by decide) hLx) hM (by decide) (by decide) hQ (by decide) (by decide), ((hG.2 0 16 (by decide)).trans hn.2.2.2.2.2).trans (hM.2 0 10 (by decide)).symm⟩⟩⟩ hS hl
