set_option maxHeartbeats 4000000 in
set_option maxRecDepth 100000 in
theorem lc_allow {p : Program} {e : Env} {s : State} {m : MethodId} {below : List Frame} {meth : Method} {c : Code} (l : Launch) {b L : Nat} {xs : Nat → Int32} (hL : L ≤ 3072) (C0 : lw_At p s m meth c b L xs) (dC : Nat → ClassId) (dI : Nat → Nat → Nat) (ad : Nat → Nat) (E : EP) (hEE : EC ad E) (hE : E (LF s) s s.heap) {A : Nat → Nat} {C : Nat → ClassId} {nb : Nat} {st : Nat → Nat → Int32} {sl : Nat → Nat → Int64} {so : Nat → XR} {ar : Nat → Nat} {cy : Nat → ClassId} {st2 : Nat → Nat → Int32} {sl2 : Nat → Nat → Int64} {a0 o : Nat} {yo : ClassId} {H : Heap} {locs : List Loc} {ls : Array Slot} (i : Nat) (hi : i + 6 ≤ L) (hA0 : A 0 = a0) (h : LH dC dI s H A C nb st sl so ar cy st2 sl2 o yo) (hn : LN ad nb st sl so st2 sl2) (hS : va_S (LF s) s.heap H locs) (hl : lv_has ls 8 [(4, .int (nI i)), (3, .ref o), (2, .ref (ar 0)), (1, .ref a0), (0, .ref b)]) {nc ns : Nat} (h1 : nc + 5 ≤ room_1.cells) (h2 : ns + 170 ≤ room_1.slots) {Q : State → Prop} (kk : LK p l e s m b below meth c dC dI ad ar cy a0 o yo i (nc + 5) (ns + 170) 1393 Q) : W p l e room_1 s m #[Value.ref b] below meth c H locs nc ns Q (F0 m 482 ls []) := by
  subst hA0
  obtain ⟨hx, hb, hr, hml, hown, hts, hX, hbl, hlocks, hgv⟩ := id C0
  have hbA : ¬ LF s b := fun z => absurd hbl (Nat.not_lt.mpr z)
  obtain ⟨g, hg0, hg1, hg2, B, hgB⟩ := hn.2.2.1
  refine lv_aload_n hx hb dL_law_482 rfl (lv_at hl 3 rfl) ?_
  refine lv_aload_n hx hb dL_law_483 rfl (lv_at hl 4 rfl) ?_
  refine lv_iload hx hb dL_law_484 (lv_at hl 0 rfl) ?_
  refine lv_iconst (v := 1) hx hb dL_law_486 (by decide) ?_
  refine lv_iadd hx hb dL_law_487 ?_
  refine zz_top (v := nI (i + 1)) (nI_add i 1) ?_
  refine va_sld hx hb hX hbl hbA hS (i := nI (i + 1)) (vp_in_nI (by omega) (by omega)) dL_law_488 ?_
  refine lv_topi (fun v1 ev1 => ?_)
  refine lv_aload_n hx hb dL_law_489 rfl (lv_at hl 4 rfl) ?_
  refine lv_iload hx hb dL_law_490 (lv_at hl 0 rfl) ?_
  refine lv_iconst (v := 2) hx hb dL_law_492 (by decide) ?_
  refine lv_iadd hx hb dL_law_493 ?_
  refine zz_top (v := nI (i + 2)) (nI_add i 2) ?_
  refine va_sld hx hb hX hbl hbA hS (i := nI (i + 2)) (vp_in_nI (by omega) (by omega)) dL_law_494 ?_
  refine lv_topi (fun v2 ev2 => ?_)
  refine lv_aload_n hx hb dL_law_495 rfl (lv_at hl 4 rfl) ?_
  refine lv_iload hx hb dL_law_496 (lv_at hl 0 rfl) ?_
  refine lv_iconst (v := 3) hx hb dL_law_498 (by decide) ?_
  refine lv_iadd hx hb dL_law_499 ?_
  refine zz_top (v := nI (i + 3)) (nI_add i 3) ?_
  refine va_sld hx hb hX hbl hbA hS (i := nI (i + 3)) (vp_in_nI (by omega) (by omega)) dL_law_500 ?_
  refine lv_topi (fun v3 ev3 => ?_)
  refine va_calli (va_runV (As := [.int v1, .int v2, .int v3]) (rest := []) ⟨hx, hb, hml, hown, hts⟩ (x_X11_allow l dC dI ad E hEE A C nb H.size h.1.1 st sl so v1 v2 v3 hn.1.1) (cwV 3 hts gT_X11_allow_63 rfl rfl rfl (by decide +kernel) ⟨Nat.le_of_ble_eq_true rfl, Nat.le_of_ble_eq_true rfl⟩) ⟨fun a U g mk q => ⟨q.1, xPre.blind hEE q.2⟩, va_recv h.2.2.2.2.1 h.2.1 (ci := 10) (q0 := 0) rfl (xw_is (r := 0) (by omega) (xc_fix (r := 0) (by omega))), fun U hU hW => ⟨rfl, xPre.ofg hEE h.2.1 h.2.2.2.2.1 hE hS (h.fx hS) hU hW⟩⟩ rfl rfl hl.1 rfl (lv_room (Nat.le_of_ble_eq_true rfl)) dL_law_501 ⟨by omega, by omega⟩) hS (fun q _ z => h.fx hS q z) (h.fx hS) (fun r5 x6 t4 H7 locs ht hvm hwx hB hz1 hk1 hS => ?_)
  have h := h.cx (xB.at ht hB) hk1
  clear hB hz1 hk1 ht hvm
  refine lv_pop hx hb dL_law_504 rfl ?_
  refine lv_aload_n hx hb dL_law_505 rfl (lv_at hl 2 rfl) ?_
  refine lv_aload_n hx hb dL_law_506 rfl (lv_at hl 4 rfl) ?_
  refine lv_iload hx hb dL_law_507 (lv_at hl 0 rfl) ?_
  refine lv_iconst (v := 1) hx hb dL_law_509 (by decide) ?_
  refine lv_iadd hx hb dL_law_510 ?_
  refine zz_top (v := nI (i + 1)) (nI_add i 1) ?_
  refine va_sld hx hb hX hbl hbA hS (i := nI (i + 1)) (vp_in_nI (by omega) (by omega)) dL_law_511 ?_
  refine lv_topi (fun v8 ev8 => ?_)
  refine lv_aload_n hx hb dL_law_512 rfl (lv_at hl 4 rfl) ?_
  refine lv_iload hx hb dL_law_513 (lv_at hl 0 rfl) ?_
  refine lv_iconst (v := 2) hx hb dL_law_515 (by decide) ?_
  refine lv_iadd hx hb dL_law_516 ?_
  refine zz_top (v := nI (i + 2)) (nI_add i 2) ?_
  refine va_sld hx hb hX hbl hbA hS (i := nI (i + 2)) (vp_in_nI (by omega) (by omega)) dL_law_517 ?_
  refine lv_topi (fun v9 ev9 => ?_)
  refine lv_aload_n hx hb dL_law_518 rfl (lv_at hl 4 rfl) ?_
  refine lv_iload hx hb dL_law_519 (lv_at hl 0 rfl) ?_
  refine lv_iconst (v := 3) hx hb dL_law_521 (by decide) ?_
  refine lv_iadd hx hb dL_law_522 ?_
  refine zz_top (v := nI (i + 3)) (nI_add i 3) ?_
  refine va_sld hx hb hX hbl hbA hS (i := nI (i + 3)) (vp_in_nI (by omega) (by omega)) dL_law_523 ?_
  refine lv_topi (fun v10 ev10 => ?_)
  refine va_calli (va_runV (As := [.int v8, .int v9, .int v10]) (rest := []) ⟨hx, hb, hml, hown, hts⟩ (m_allow l dC dI ar cy H7.size h.1.2.1 st2 sl2 v8 v9 v10 hn.2.1.1) (cwV 3 hts gT_X12_allow_67 rfl rfl rfl (by decide +kernel) ⟨Nat.le_of_ble_eq_true rfl, Nat.le_of_ble_eq_true rfl⟩) ⟨fun a U g mk q => ⟨q.1, mPre.blind q.2⟩, va_recv h.2.2.2.2.2.1 h.2.2.1 (ci := 11) (q0 := 0) rfl rfl, fun U hU hW => ⟨rfl, mPre.of h.2.2.1 h.2.2.2.2.2.1 hU hW⟩⟩ rfl rfl hl.1 rfl (lv_room (Nat.le_of_ble_eq_true rfl)) dL_law_524 ⟨by omega, by omega⟩) hS (fun q _ z => h.fm hS q z) (h.fm hS) (fun r12 x13 t11 H14 locs ht hvm hwm hB hz1 hk1 hS => ?_)
  have h := h.cm (mB.at ht hB) hk1
  clear hB hz1 hk1 ht hvm
  refine lv_pop hx hb dL_law_527 rfl ?_
  refine lv_goto (tgt := 1393) hx hb dL_law_528 (by decide) ?_
  obtain ⟨hM, hQ, hmf⟩ := hwm
  obtain ⟨hG, hso, hxf⟩ := hwx
  refine W.widen (k := nc + 5) (n := ns + 170) (by omega) (by omega) ?_
  exact kk _ _ _ _ _ _ _ _ _ _ _ rfl h ⟨⟨hG.1, by rw [hso]; exact hn.1.2.1, hn.1.2.2.1.mg hG (by decide), by rw [hso]; exact hn.1.2.2.2.mgs hG (by decide) (by decide)⟩, ⟨hM.1, hn.2.1.2.1.mg hM (by decide), hn.2.1.2.2.1.mg hM (by decide), hn.2.1.2.2.2.mg hM (by decide)⟩, hn.ct hG hM (by decide) (by decide) (by decide) (by decide), ⟨hn.ck hG hM (by decide) (by decide), ⟨hn.2.2.2.2.1.ni hxf hM (by decide) (by decide) hQ (by decide) (by decide), ((hG.2 0 16 (by decide)).trans hn.2.2.2.2.2).trans (hM.2 0 10 (by decide)).symm⟩⟩⟩ hS hl
set_option maxHeartbeats 4000000 in
set_option maxRecDepth 100000 in
theorem lc_forbid {p : Program} {e : Env} {s : State} {m : MethodId} {below : List Frame} {meth : Method} {c : Code} (l : Launch) {b L : Nat} {xs : Nat → Int32} (hL : L ≤ 3072) (C0 : lw_At p s m meth c b L xs) (dC : Nat → ClassId) (dI : Nat → Nat → Nat) (ad : Nat → Nat) (E : EP) (hEE : EC ad E) (hE : E (LF s) s s.heap) {A : Nat → Nat} {C : Nat → ClassId} {nb : Nat} {st : Nat → Nat → Int32} {sl : Nat → Nat → Int64} {so : Nat → XR} {ar : Nat → Nat} {cy : Nat → ClassId} {st2 : Nat → Nat → Int32} {sl2 : Nat → Nat → Int64} {a0 o : Nat} {yo : ClassId} {H : Heap} {locs : List Loc} {ls : Array Slot} (i : Nat) (hi : i + 6 ≤ L) (hA0 : A 0 = a0) (h : LH dC dI s H A C nb st sl so ar cy st2 sl2 o yo) (hn : LN ad nb st sl so st2 sl2) (hS : va_S (LF s) s.heap H locs) (hl : lv_has ls 8 [(4, .int (nI i)), (3, .ref o), (2, .ref (ar 0)), (1, .ref a0), (0, .ref b)]) {nc ns : Nat} (h1 : nc + 5 ≤ room_1.cells) (h2 : ns + 170 ≤ room_1.slots) {Q : State → Prop} (kk : LK p l e s m b below meth c dC dI ad ar cy a0 o yo i (nc + 5) (ns + 170) 1393 Q) : W p l e room_1 s m #[Value.ref b] below meth c H locs nc ns Q (F0 m 531 ls []) := by
  subst hA0
  obtain ⟨hx, hb, hr, hml, hown, hts, hX, hbl, hlocks, hgv⟩ := id C0
  have hbA : ¬ LF s b := fun z => absurd hbl (Nat.not_lt.mpr z)
  obtain ⟨g, hg0, hg1, hg2, B, hgB⟩ := hn.2.2.1
  refine lv_aload_n hx hb dL_law_531 rfl (lv_at hl 3 rfl) ?_
  refine lv_aload_n hx hb dL_law_532 rfl (lv_at hl 4 rfl) ?_
  refine lv_iload hx hb dL_law_533 (lv_at hl 0 rfl) ?_
  refine lv_iconst (v := 1) hx hb dL_law_535 (by decide) ?_
  refine lv_iadd hx hb dL_law_536 ?_
  refine zz_top (v := nI (i + 1)) (nI_add i 1) ?_
  refine va_sld hx hb hX hbl hbA hS (i := nI (i + 1)) (vp_in_nI (by omega) (by omega)) dL_law_537 ?_
  refine lv_topi (fun v1 ev1 => ?_)
  refine lv_aload_n hx hb dL_law_538 rfl (lv_at hl 4 rfl) ?_
  refine lv_iload hx hb dL_law_539 (lv_at hl 0 rfl) ?_
  refine lv_iconst (v := 2) hx hb dL_law_541 (by decide) ?_
  refine lv_iadd hx hb dL_law_542 ?_
  refine zz_top (v := nI (i + 2)) (nI_add i 2) ?_
  refine va_sld hx hb hX hbl hbA hS (i := nI (i + 2)) (vp_in_nI (by omega) (by omega)) dL_law_543 ?_
  refine lv_topi (fun v2 ev2 => ?_)
  refine lv_aload_n hx hb dL_law_544 rfl (lv_at hl 4 rfl) ?_
  refine lv_iload hx hb dL_law_545 (lv_at hl 0 rfl) ?_
  refine lv_iconst (v := 3) hx hb dL_law_547 (by decide) ?_
  refine lv_iadd hx hb dL_law_548 ?_
  refine zz_top (v := nI (i + 3)) (nI_add i 3) ?_
  refine va_sld hx hb hX hbl hbA hS (i := nI (i + 3)) (vp_in_nI (by omega) (by omega)) dL_law_549 ?_
  refine lv_topi (fun v3 ev3 => ?_)
  refine va_calli (va_runV (As := [.int v1, .int v2, .int v3]) (rest := []) ⟨hx, hb, hml, hown, hts⟩ (x_X11_forbid l dC dI ad E hEE A C nb H.size h.1.1 st sl so v1 v2 v3 hn.1.1) (cwV 3 hts gT_X11_forbid_68 rfl rfl rfl (by decide +kernel) ⟨Nat.le_of_ble_eq_true rfl, Nat.le_of_ble_eq_true rfl⟩) ⟨fun a U g mk q => ⟨q.1, xPre.blind hEE q.2⟩, va_recv h.2.2.2.2.1 h.2.1 (ci := 10) (q0 := 0) rfl (xw_is (r := 0) (by omega) (xc_fix (r := 0) (by omega))), fun U hU hW => ⟨rfl, xPre.ofg hEE h.2.1 h.2.2.2.2.1 hE hS (h.fx hS) hU hW⟩⟩ rfl rfl hl.1 rfl (lv_room (Nat.le_of_ble_eq_true rfl)) dL_law_550 ⟨by omega, by omega⟩) hS (fun q _ z => h.fx hS q z) (h.fx hS) (fun r5 x6 t4 H7 locs ht hvm hwx hB hz1 hk1 hS => ?_)
  have h := h.cx (xB.at ht hB) hk1
  clear hB hz1 hk1 ht hvm
  refine lv_pop hx hb dL_law_553 rfl ?_
  refine lv_aload_n hx hb dL_law_554 rfl (lv_at hl 2 rfl) ?_
  refine lv_aload_n hx hb dL_law_555 rfl (lv_at hl 4 rfl) ?_
  refine lv_iload hx hb dL_law_556 (lv_at hl 0 rfl) ?_
  refine lv_iconst (v := 1) hx hb dL_law_558 (by decide) ?_
  refine lv_iadd hx hb dL_law_559 ?_
  refine zz_top (v := nI (i + 1)) (nI_add i 1) ?_
  refine va_sld hx hb hX hbl hbA hS (i := nI (i + 1)) (vp_in_nI (by omega) (by omega)) dL_law_560 ?_
  refine lv_topi (fun v8 ev8 => ?_)
  refine lv_aload_n hx hb dL_law_561 rfl (lv_at hl 4 rfl) ?_
  refine lv_iload hx hb dL_law_562 (lv_at hl 0 rfl) ?_
  refine lv_iconst (v := 2) hx hb dL_law_564 (by decide) ?_
  refine lv_iadd hx hb dL_law_565 ?_
  refine zz_top (v := nI (i + 2)) (nI_add i 2) ?_
  refine va_sld hx hb hX hbl hbA hS (i := nI (i + 2)) (vp_in_nI (by omega) (by omega)) dL_law_566 ?_
  refine lv_topi (fun v9 ev9 => ?_)
  refine lv_aload_n hx hb dL_law_567 rfl (lv_at hl 4 rfl) ?_
  refine lv_iload hx hb dL_law_568 (lv_at hl 0 rfl) ?_
  refine lv_iconst (v := 3) hx hb dL_law_570 (by decide) ?_
  refine lv_iadd hx hb dL_law_571 ?_
  refine zz_top (v := nI (i + 3)) (nI_add i 3) ?_
  refine va_sld hx hb hX hbl hbA hS (i := nI (i + 3)) (vp_in_nI (by omega) (by omega)) dL_law_572 ?_
  refine lv_topi (fun v10 ev10 => ?_)
  refine va_calli (va_runV (As := [.int v8, .int v9, .int v10]) (rest := []) ⟨hx, hb, hml, hown, hts⟩ (m_forbid l dC dI ar cy H7.size h.1.2.1 st2 sl2 v8 v9 v10 hn.2.1.1) (cwV 3 hts gT_X12_forbid_71 rfl rfl rfl (by decide +kernel) ⟨Nat.le_of_ble_eq_true rfl, Nat.le_of_ble_eq_true rfl⟩) ⟨fun a U g mk q => ⟨q.1, mPre.blind q.2⟩, va_recv h.2.2.2.2.2.1 h.2.2.1 (ci := 11) (q0 := 0) rfl rfl, fun U hU hW => ⟨rfl, mPre.of h.2.2.1 h.2.2.2.2.2.1 hU hW⟩⟩ rfl rfl hl.1 rfl (lv_room (Nat.le_of_ble_eq_true rfl)) dL_law_573 ⟨by omega, by omega⟩) hS (fun q _ z => h.fm hS q z) (h.fm hS) (fun r12 x13 t11 H14 locs ht hvm hwm hB hz1 hk1 hS => ?_)
  have h := h.cm (mB.at ht hB) hk1
  clear hB hz1 hk1 ht hvm
  refine lv_pop hx hb dL_law_576 rfl ?_
  refine lv_goto (tgt := 1393) hx hb dL_law_577 (by decide) ?_
  obtain ⟨hM, hQ, hmf⟩ := hwm
  obtain ⟨hG, hso, hxf⟩ := hwx
  refine W.widen (k := nc + 5) (n := ns + 170) (by omega) (by omega) ?_
  exact kk _ _ _ _ _ _ _ _ _ _ _ rfl h ⟨⟨hG.1, by rw [hso]; exact hn.1.2.1, hn.1.2.2.1.mg hG (by decide), by rw [hso]; exact hn.1.2.2.2.mgs hG (by decide) (by decide)⟩, ⟨hM.1, hn.2.1.2.1.mg hM (by decide), hn.2.1.2.2.1.mg hM (by decide), hn.2.1.2.2.2.mg hM (by decide)⟩, hn.ct hG hM (by decide) (by decide) (by decide) (by decide), ⟨hn.ck hG hM (by decide) (by decide), ⟨hn.2.2.2.2.1.ni hxf hM (by decide) (by decide) hQ (by decide) (by decide), ((hG.2 0 16 (by decide)).trans hn.2.2.2.2.2).trans (hM.2 0 10 (by decide)).symm⟩⟩⟩ hS hl
set_option maxHeartbeats 4000000 in
set_option maxRecDepth 100000 in
theorem lc_fence {p : Program} {e : Env} {s : State} {m : MethodId} {below : List Frame} {meth : Method} {c : Code} (l : Launch) {b L : Nat} {xs : Nat → Int32} (hL : L ≤ 3072) (C0 : lw_At p s m meth c b L xs) (dC : Nat → ClassId) (dI : Nat → Nat → Nat) (ad : Nat → Nat) (E : EP) (hEE : EC ad E) (hE : E (LF s) s s.heap) {A : Nat → Nat} {C : Nat → ClassId} {nb : Nat} {st : Nat → Nat → Int32} {sl : Nat → Nat → Int64} {so : Nat → XR} {ar : Nat → Nat} {cy : Nat → ClassId} {st2 : Nat → Nat → Int32} {sl2 : Nat → Nat → Int64} {a0 o : Nat} {yo : ClassId} {H : Heap} {locs : List Loc} {ls : Array Slot} (i : Nat) (hi : i + 6 ≤ L) (hA0 : A 0 = a0) (h : LH dC dI s H A C nb st sl so ar cy st2 sl2 o yo) (hn : LN ad nb st sl so st2 sl2) (hS : va_S (LF s) s.heap H locs) (hl : lv_has ls 8 [(4, .int (nI i)), (3, .ref o), (2, .ref (ar 0)), (1, .ref a0), (0, .ref b)]) {nc ns : Nat} (h1 : nc + 5 ≤ room_1.cells) (h2 : ns + 170 ≤ room_1.slots) {Q : State → Prop} (kk : LK p l e s m b below meth c dC dI ad ar cy a0 o yo i (nc + 5) (ns + 170) 1393 Q) : W p l e room_1 s m #[Value.ref b] below meth c H locs nc ns Q (F0 m 580 ls []) := by
  subst hA0
  obtain ⟨hx, hb, hr, hml, hown, hts, hX, hbl, hlocks, hgv⟩ := id C0
  have hbA : ¬ LF s b := fun z => absurd hbl (Nat.not_lt.mpr z)
  obtain ⟨g, hg0, hg1, hg2, B, hgB⟩ := hn.2.2.1
  refine lv_aload_n hx hb dL_law_580 rfl (lv_at hl 3 rfl) ?_
  refine lv_aload_n hx hb dL_law_581 rfl (lv_at hl 4 rfl) ?_
  refine lv_iload hx hb dL_law_582 (lv_at hl 0 rfl) ?_
  refine lv_iconst (v := 1) hx hb dL_law_584 (by decide) ?_
  refine lv_iadd hx hb dL_law_585 ?_
  refine zz_top (v := nI (i + 1)) (nI_add i 1) ?_
  refine va_sld hx hb hX hbl hbA hS (i := nI (i + 1)) (vp_in_nI (by omega) (by omega)) dL_law_586 ?_
  refine lv_topi (fun v1 ev1 => ?_)
  refine va_calli (va_runV (As := [.int v1]) (rest := []) ⟨hx, hb, hml, hown, hts⟩ (x_X11_fence l dC dI ad E hEE A C nb H.size h.1.1 st sl so v1 hn.1.1) (cwV 1 hts gT_X11_fence_72 rfl rfl rfl (by decide +kernel) ⟨Nat.le_of_ble_eq_true rfl, Nat.le_of_ble_eq_true rfl⟩) ⟨fun a U g mk q => ⟨q.1, xPre.blind hEE q.2⟩, va_recv h.2.2.2.2.1 h.2.1 (ci := 10) (q0 := 0) rfl (xw_is (r := 0) (by omega) (xc_fix (r := 0) (by omega))), fun U hU hW => ⟨rfl, xPre.ofg hEE h.2.1 h.2.2.2.2.1 hE hS (h.fx hS) hU hW⟩⟩ rfl rfl hl.1 rfl (lv_room (Nat.le_of_ble_eq_true rfl)) dL_law_587 ⟨by omega, by omega⟩) hS (fun q _ z => h.fx hS q z) (h.fx hS) (fun r3 x4 t2 H5 locs ht hvm hwx hB hz1 hk1 hS => ?_)
  have h := h.cx (xB.at ht hB) hk1
  clear hB hz1 hk1 ht hvm
  refine lv_pop hx hb dL_law_590 rfl ?_
  refine lv_aload_n hx hb dL_law_591 rfl (lv_at hl 2 rfl) ?_
  refine lv_aload_n hx hb dL_law_592 rfl (lv_at hl 4 rfl) ?_
  refine lv_iload hx hb dL_law_593 (lv_at hl 0 rfl) ?_
  refine lv_iconst (v := 1) hx hb dL_law_595 (by decide) ?_
  refine lv_iadd hx hb dL_law_596 ?_
  refine zz_top (v := nI (i + 1)) (nI_add i 1) ?_
  refine va_sld hx hb hX hbl hbA hS (i := nI (i + 1)) (vp_in_nI (by omega) (by omega)) dL_law_597 ?_
  refine lv_topi (fun v6 ev6 => ?_)
  refine va_calli (va_runV (As := [.int v6]) (rest := []) ⟨hx, hb, hml, hown, hts⟩ (m_fence l dC dI ar cy H5.size h.1.2.1 st2 sl2 v6 hn.2.1.1) (cwV 1 hts gT_X12_fence_75 rfl rfl rfl (by decide +kernel) ⟨Nat.le_of_ble_eq_true rfl, Nat.le_of_ble_eq_true rfl⟩) ⟨fun a U g mk q => ⟨q.1, mPre.blind q.2⟩, va_recv h.2.2.2.2.2.1 h.2.2.1 (ci := 11) (q0 := 0) rfl rfl, fun U hU hW => ⟨rfl, mPre.of h.2.2.1 h.2.2.2.2.2.1 hU hW⟩⟩ rfl rfl hl.1 rfl (lv_room (Nat.le_of_ble_eq_true rfl)) dL_law_598 ⟨by omega, by omega⟩) hS (fun q _ z => h.fm hS q z) (h.fm hS) (fun r8 x9 t7 H10 locs ht hvm hwm hB hz1 hk1 hS => ?_)
  have h := h.cm (mB.at ht hB) hk1
  clear hB hz1 hk1 ht hvm
  refine lv_pop hx hb dL_law_601 rfl ?_
  refine lv_goto (tgt := 1393) hx hb dL_law_602 (by decide) ?_
  obtain ⟨hM, hQ, hmf⟩ := hwm
  obtain ⟨hG, hso, hxf⟩ := hwx
  refine W.widen (k := nc + 5) (n := ns + 170) (by omega) (by omega) ?_
  exact kk _ _ _ _ _ _ _ _ _ _ _ rfl h ⟨⟨hG.1, by rw [hso]; exact hn.1.2.1, hn.1.2.2.1.mg hG (by decide), by rw [hso]; exact hn.1.2.2.2.mgs hG (by decide) (by decide)⟩, ⟨hM.1, hn.2.1.2.1.mg hM (by decide), hn.2.1.2.2.1.mg hM (by decide), hn.2.1.2.2.2.mg hM (by decide)⟩, hn.ct hG hM (by decide) (by decide) (by decide) (by decide), ⟨hn.ck hG hM (by decide) (by decide), ⟨hn.2.2.2.2.1.ni hxf hM (by decide) (by decide) hQ (by decide) (by decide), ((hG.2 0 16 (by decide)).trans hn.2.2.2.2.2).trans (hM.2 0 10 (by decide)).symm⟩⟩⟩ hS hl
set_option maxHeartbeats 4000000 in
set_option maxRecDepth 100000 in
theorem lc_sign {p : Program} {e : Env} {s : State} {m : MethodId} {below : List Frame} {meth : Method} {c : Code} (l : Launch) {b L : Nat} {xs : Nat → Int32} (hL : L ≤ 3072) (C0 : lw_At p s m meth c b L xs) (dC : Nat → ClassId) (dI : Nat → Nat → Nat) (ad : Nat → Nat) (E : EP) (hEE : EC ad E) (hE : E (LF s) s s.heap) {A : Nat → Nat} {C : Nat → ClassId} {nb : Nat} {st : Nat → Nat → Int32} {sl : Nat → Nat → Int64} {so : Nat → XR} {ar : Nat → Nat} {cy : Nat → ClassId} {st2 : Nat → Nat → Int32} {sl2 : Nat → Nat → Int64} {a0 o : Nat} {yo : ClassId} {H : Heap} {locs : List Loc} {ls : Array Slot} (i : Nat) (hi : i + 6 ≤ L) (hA0 : A 0 = a0) (h : LH dC dI s H A C nb st sl so ar cy st2 sl2 o yo) (hn : LN ad nb st sl so st2 sl2) (hS : va_S (LF s) s.heap H locs) (hl : lv_has ls 8 [(4, .int (nI i)), (3, .ref o), (2, .ref (ar 0)), (1, .ref a0), (0, .ref b)]) {nc ns : Nat} (h1 : nc + 5 ≤ room_1.cells) (h2 : ns + 170 ≤ room_1.slots) {Q : State → Prop} (kk : LK p l e s m b below meth c dC dI ad ar cy a0 o yo i (nc + 5) (ns + 170) 1393 Q) : W p l e room_1 s m #[Value.ref b] below meth c H locs nc ns Q (F0 m 605 ls []) := by
  subst hA0
  obtain ⟨hx, hb, hr, hml, hown, hts, hX, hbl, hlocks, hgv⟩ := id C0
  have hbA : ¬ LF s b := fun z => absurd hbl (Nat.not_lt.mpr z)
  obtain ⟨g, hg0, hg1, hg2, B, hgB⟩ := hn.2.2.1
  refine lv_aload_n hx hb dL_law_605 rfl (lv_at hl 3 rfl) ?_
  refine lv_aload_n hx hb dL_law_606 rfl (lv_at hl 4 rfl) ?_
  refine lv_iload hx hb dL_law_607 (lv_at hl 0 rfl) ?_
  refine lv_iconst (v := 1) hx hb dL_law_609 (by decide) ?_
  refine lv_iadd hx hb dL_law_610 ?_
  refine zz_top (v := nI (i + 1)) (nI_add i 1) ?_
  refine va_sld hx hb hX hbl hbA hS (i := nI (i + 1)) (vp_in_nI (by omega) (by omega)) dL_law_611 ?_
  refine lv_topi (fun v1 ev1 => ?_)
  refine va_calli (va_runV (As := [.int v1]) (rest := []) ⟨hx, hb, hml, hown, hts⟩ (x_X11_sign l dC dI ad E hEE A C nb H.size h.1.1 st sl so v1 hn.1.1) (cwV 1 hts gT_X11_sign_76 rfl rfl rfl (by decide +kernel) ⟨Nat.le_of_ble_eq_true rfl, Nat.le_of_ble_eq_true rfl⟩) ⟨fun a U g mk q => ⟨q.1, xPre.blind hEE q.2⟩, va_recv h.2.2.2.2.1 h.2.1 (ci := 10) (q0 := 0) rfl (xw_is (r := 0) (by omega) (xc_fix (r := 0) (by omega))), fun U hU hW => ⟨rfl, xPre.ofg hEE h.2.1 h.2.2.2.2.1 hE hS (h.fx hS) hU hW⟩⟩ rfl rfl hl.1 rfl (lv_room (Nat.le_of_ble_eq_true rfl)) dL_law_612 ⟨by omega, by omega⟩) hS (fun q _ z => h.fx hS q z) (h.fx hS) (fun r3 x4 t2 H5 locs ht hvm hwx hB hz1 hk1 hS => ?_)
  have h := h.cx (xB.at ht hB) hk1
  clear hB hz1 hk1 ht hvm
  refine lv_pop hx hb dL_law_615 rfl ?_
  refine lv_aload_n hx hb dL_law_616 rfl (lv_at hl 2 rfl) ?_
  refine lv_aload_n hx hb dL_law_617 rfl (lv_at hl 4 rfl) ?_
  refine lv_iload hx hb dL_law_618 (lv_at hl 0 rfl) ?_
  refine lv_iconst (v := 1) hx hb dL_law_620 (by decide) ?_
  refine lv_iadd hx hb dL_law_621 ?_
  refine zz_top (v := nI (i + 1)) (nI_add i 1) ?_
  refine va_sld hx hb hX hbl hbA hS (i := nI (i + 1)) (vp_in_nI (by omega) (by omega)) dL_law_622 ?_
  refine lv_topi (fun v6 ev6 => ?_)
  refine va_calli (va_runV (As := [.int v6]) (rest := []) ⟨hx, hb, hml, hown, hts⟩ (m_sign l dC dI ar cy H5.size h.1.2.1 st2 sl2 v6 hn.2.1.1) (cwV 1 hts gT_X12_sign_79 rfl rfl rfl (by decide +kernel) ⟨Nat.le_of_ble_eq_true rfl, Nat.le_of_ble_eq_true rfl⟩) ⟨fun a U g mk q => ⟨q.1, mPre.blind q.2⟩, va_recv h.2.2.2.2.2.1 h.2.2.1 (ci := 11) (q0 := 0) rfl rfl, fun U hU hW => ⟨rfl, mPre.of h.2.2.1 h.2.2.2.2.2.1 hU hW⟩⟩ rfl rfl hl.1 rfl (lv_room (Nat.le_of_ble_eq_true rfl)) dL_law_623 ⟨by omega, by omega⟩) hS (fun q _ z => h.fm hS q z) (h.fm hS) (fun r8 x9 t7 H10 locs ht hvm hwm hB hz1 hk1 hS => ?_)
  have h := h.cm (mB.at ht hB) hk1
  clear hB hz1 hk1 ht hvm
  refine lv_pop hx hb dL_law_626 rfl ?_
  refine lv_goto (tgt := 1393) hx hb dL_law_627 (by decide) ?_
  obtain ⟨hM, hQ, hmf⟩ := hwm
  obtain ⟨hG, hso, hxf⟩ := hwx
  refine W.widen (k := nc + 5) (n := ns + 170) (by omega) (by omega) ?_
  exact kk _ _ _ _ _ _ _ _ _ _ _ rfl h ⟨⟨hG.1, by rw [hso]; exact hn.1.2.1, hn.1.2.2.1.mg hG (by decide), by rw [hso]; exact hn.1.2.2.2.mgs hG (by decide) (by decide)⟩, ⟨hM.1, hn.2.1.2.1.mg hM (by decide), hn.2.1.2.2.1.mg hM (by decide), hn.2.1.2.2.2.mg hM (by decide)⟩, hn.ct hG hM (by decide) (by decide) (by decide) (by decide), ⟨hn.ck hG hM (by decide) (by decide), ⟨hn.2.2.2.2.1.ni hxf hM (by decide) (by decide) hQ (by decide) (by decide), ((hG.2 0 16 (by decide)).trans hn.2.2.2.2.2).trans (hM.2 0 10 (by decide)).symm⟩⟩⟩ hS hl
set_option maxHeartbeats 4000000 in
set_option maxRecDepth 100000 in
theorem lc_hold {p : Program} {e : Env} {s : State} {m : MethodId} {below : List Frame} {meth : Method} {c : Code} (l : Launch) {b L : Nat} {xs : Nat → Int32} (hL : L ≤ 3072) (C0 : lw_At p s m meth c b L xs) (dC : Nat → ClassId) (dI : Nat → Nat → Nat) (ad : Nat → Nat) (E : EP) (hEE : EC ad E) (hE : E (LF s) s s.heap) {A : Nat → Nat} {C : Nat → ClassId} {nb : Nat} {st : Nat → Nat → Int32} {sl : Nat → Nat → Int64} {so : Nat → XR} {ar : Nat → Nat} {cy : Nat → ClassId} {st2 : Nat → Nat → Int32} {sl2 : Nat → Nat → Int64} {a0 o : Nat} {yo : ClassId} {H : Heap} {locs : List Loc} {ls : Array Slot} (i : Nat) (hi : i + 6 ≤ L) (hA0 : A 0 = a0) (h : LH dC dI s H A C nb st sl so ar cy st2 sl2 o yo) (hn : LN ad nb st sl so st2 sl2) (hS : va_S (LF s) s.heap H locs) (hl : lv_has ls 8 [(4, .int (nI i)), (3, .ref o), (2, .ref (ar 0)), (1, .ref a0), (0, .ref b)]) {nc ns : Nat} (h1 : nc + 5 ≤ room_1.cells) (h2 : ns + 170 ≤ room_1.slots) {Q : State → Prop} (kk : LK p l e s m b below meth c dC dI ad ar cy a0 o yo i (nc + 5) (ns + 170) 1393 Q) : W p l e room_1 s m #[Value.ref b] below meth c H locs nc ns Q (F0 m 630 ls []) := by
  subst hA0
  obtain ⟨hx, hb, hr, hml, hown, hts, hX, hbl, hlocks, hgv⟩ := id C0
  have hbA : ¬ LF s b := fun z => absurd hbl (Nat.not_lt.mpr z)
  obtain ⟨g, hg0, hg1, hg2, B, hgB⟩ := hn.2.2.1
  refine lv_aload_n hx hb dL_law_630 rfl (lv_at hl 3 rfl) ?_
  refine lv_aload_n hx hb dL_law_631 rfl (lv_at hl 4 rfl) ?_
  refine lv_iload hx hb dL_law_632 (lv_at hl 0 rfl) ?_
  refine lv_iconst (v := 1) hx hb dL_law_634 (by decide) ?_
  refine lv_iadd hx hb dL_law_635 ?_
  refine zz_top (v := nI (i + 1)) (nI_add i 1) ?_
  refine va_sld hx hb hX hbl hbA hS (i := nI (i + 1)) (vp_in_nI (by omega) (by omega)) dL_law_636 ?_
  refine lv_topi (fun v1 ev1 => ?_)
  refine lv_aload_n hx hb dL_law_637 rfl (lv_at hl 4 rfl) ?_
  refine lv_iload hx hb dL_law_638 (lv_at hl 0 rfl) ?_
  refine lv_iconst (v := 2) hx hb dL_law_640 (by decide) ?_
  refine lv_iadd hx hb dL_law_641 ?_
  refine zz_top (v := nI (i + 2)) (nI_add i 2) ?_
  refine va_sld hx hb hX hbl hbA hS (i := nI (i + 2)) (vp_in_nI (by omega) (by omega)) dL_law_642 ?_
  refine lv_topi (fun v2 ev2 => ?_)
  refine va_calli (va_runV (As := [.int v1, .int v2]) (rest := []) ⟨hx, hb, hml, hown, hts⟩ (x_X11_hold l dC dI ad E hEE A C nb H.size h.1.1 st sl so v1 v2 hn.1.1) (cwV 2 hts gT_X11_hold_80 rfl rfl rfl (by decide +kernel) ⟨Nat.le_of_ble_eq_true rfl, Nat.le_of_ble_eq_true rfl⟩) ⟨fun a U g mk q => ⟨q.1, xPre.blind hEE q.2⟩, va_recv h.2.2.2.2.1 h.2.1 (ci := 10) (q0 := 0) rfl (xw_is (r := 0) (by omega) (xc_fix (r := 0) (by omega))), fun U hU hW => ⟨rfl, xPre.ofg hEE h.2.1 h.2.2.2.2.1 hE hS (h.fx hS) hU hW⟩⟩ rfl rfl hl.1 rfl (lv_room (Nat.le_of_ble_eq_true rfl)) dL_law_643 ⟨by omega, by omega⟩) hS (fun q _ z => h.fx hS q z) (h.fx hS) (fun r4 x5 t3 H6 locs ht hvm hwx hB hz1 hk1 hS => ?_)
  have h := h.cx (xB.at ht hB) hk1
  clear hB hz1 hk1 ht hvm
  refine lv_pop hx hb dL_law_646 rfl ?_
  refine lv_aload_n hx hb dL_law_647 rfl (lv_at hl 2 rfl) ?_
  refine lv_aload_n hx hb dL_law_648 rfl (lv_at hl 4 rfl) ?_
  refine lv_iload hx hb dL_law_649 (lv_at hl 0 rfl) ?_
  refine lv_iconst (v := 1) hx hb dL_law_651 (by decide) ?_
  refine lv_iadd hx hb dL_law_652 ?_
  refine zz_top (v := nI (i + 1)) (nI_add i 1) ?_
  refine va_sld hx hb hX hbl hbA hS (i := nI (i + 1)) (vp_in_nI (by omega) (by omega)) dL_law_653 ?_
  refine lv_topi (fun v7 ev7 => ?_)
  refine lv_aload_n hx hb dL_law_654 rfl (lv_at hl 4 rfl) ?_
  refine lv_iload hx hb dL_law_655 (lv_at hl 0 rfl) ?_
  refine lv_iconst (v := 2) hx hb dL_law_657 (by decide) ?_
  refine lv_iadd hx hb dL_law_658 ?_
  refine zz_top (v := nI (i + 2)) (nI_add i 2) ?_
  refine va_sld hx hb hX hbl hbA hS (i := nI (i + 2)) (vp_in_nI (by omega) (by omega)) dL_law_659 ?_
  refine lv_topi (fun v8 ev8 => ?_)
  refine va_calli (va_runV (As := [.int v7, .int v8]) (rest := []) ⟨hx, hb, hml, hown, hts⟩ (m_hold l dC dI ar cy H6.size h.1.2.1 st2 sl2 v7 v8 hn.2.1.1) (cwV 2 hts gT_X12_hold_83 rfl rfl rfl (by decide +kernel) ⟨Nat.le_of_ble_eq_true rfl, Nat.le_of_ble_eq_true rfl⟩) ⟨fun a U g mk q => ⟨q.1, mPre.blind q.2⟩, va_recv h.2.2.2.2.2.1 h.2.2.1 (ci := 11) (q0 := 0) rfl rfl, fun U hU hW => ⟨rfl, mPre.of h.2.2.1 h.2.2.2.2.2.1 hU hW⟩⟩ rfl rfl hl.1 rfl (lv_room (Nat.le_of_ble_eq_true rfl)) dL_law_660 ⟨by omega, by omega⟩) hS (fun q _ z => h.fm hS q z) (h.fm hS) (fun r10 x11 t9 H12 locs ht hvm hwm hB hz1 hk1 hS => ?_)
  have h := h.cm (mB.at ht hB) hk1
  clear hB hz1 hk1 ht hvm
  refine lv_pop hx hb dL_law_663 rfl ?_
  refine lv_goto (tgt := 1393) hx hb dL_law_664 (by decide) ?_
  obtain ⟨hM, hQ, hmf⟩ := hwm
  obtain ⟨hG, hso, hxf⟩ := hwx
  refine W.widen (k := nc + 5) (n := ns + 170) (by omega) (by omega) ?_
  exact kk _ _ _ _ _ _ _ _ _ _ _ rfl h ⟨⟨hG.1, by rw [hso]; exact hn.1.2.1, hn.1.2.2.1.mg hG (by decide), by rw [hso]; exact hn.1.2.2.2.mgs hG (by decide) (by decide)⟩, ⟨hM.1, hn.2.1.2.1.mg hM (by decide), hn.2.1.2.2.1.mg hM (by decide), hn.2.1.2.2.2.mg hM (by decide)⟩, hn.ct hG hM (by decide) (by decide) (by decide) (by decide), ⟨hn.ck hG hM (by decide) (by decide), ⟨hn.2.2.2.2.1.ni hxf hM (by decide) (by decide) hQ (by decide) (by decide), ((hG.2 0 16 (by decide)).trans hn.2.2.2.2.2).trans (hM.2 0 10 (by decide)).symm⟩⟩⟩ hS hl
set_option maxHeartbeats 4000000 in
set_option maxRecDepth 100000 in
theorem lc_come {p : Program} {e : Env} {s : State} {m : MethodId} {below : List Frame} {meth : Method} {c : Code} (l : Launch) {b L : Nat} {xs : Nat → Int32} (hL : L ≤ 3072) (C0 : lw_At p s m meth c b L xs) (dC : Nat → ClassId) (dI : Nat → Nat → Nat) (ad : Nat → Nat) (E : EP) (hEE : EC ad E) (hE : E (LF s) s s.heap) {A : Nat → Nat} {C : Nat → ClassId} {nb : Nat} {st : Nat → Nat → Int32} {sl : Nat → Nat → Int64} {so : Nat → XR} {ar : Nat → Nat} {cy : Nat → ClassId} {st2 : Nat → Nat → Int32} {sl2 : Nat → Nat → Int64} {a0 o : Nat} {yo : ClassId} {H : Heap} {locs : List Loc} {ls : Array Slot} (i : Nat) (hi : i + 6 ≤ L) (hA0 : A 0 = a0) (h : LH dC dI s H A C nb st sl so ar cy st2 sl2 o yo) (hn : LN ad nb st sl so st2 sl2) (hS : va_S (LF s) s.heap H locs) (hl : lv_has ls 8 [(4, .int (nI i)), (3, .ref o), (2, .ref (ar 0)), (1, .ref a0), (0, .ref b)]) {nc ns : Nat} (h1 : nc + 5 ≤ room_1.cells) (h2 : ns + 170 ≤ room_1.slots) {Q : State → Prop} (kk : LK p l e s m b below meth c dC dI ad ar cy a0 o yo i (nc + 5) (ns + 170) 1393 Q) : W p l e room_1 s m #[Value.ref b] below meth c H locs nc ns Q (F0 m 667 ls []) := by
  subst hA0
  obtain ⟨hx, hb, hr, hml, hown, hts, hX, hbl, hlocks, hgv⟩ := id C0
  have hbA : ¬ LF s b := fun z => absurd hbl (Nat.not_lt.mpr z)
  obtain ⟨g, hg0, hg1, hg2, B, hgB⟩ := hn.2.2.1
  refine lv_aload_n hx hb dL_law_667 rfl (lv_at hl 3 rfl) ?_
  refine lv_aload_n hx hb dL_law_668 rfl (lv_at hl 4 rfl) ?_
  refine lv_iload hx hb dL_law_669 (lv_at hl 0 rfl) ?_
  refine lv_iconst (v := 1) hx hb dL_law_671 (by decide) ?_
  refine lv_iadd hx hb dL_law_672 ?_
  refine zz_top (v := nI (i + 1)) (nI_add i 1) ?_
  refine va_sld hx hb hX hbl hbA hS (i := nI (i + 1)) (vp_in_nI (by omega) (by omega)) dL_law_673 ?_
  refine lv_topi (fun v1 ev1 => ?_)
  refine lv_aload_n hx hb dL_law_674 rfl (lv_at hl 4 rfl) ?_
  refine lv_iload hx hb dL_law_675 (lv_at hl 0 rfl) ?_
  refine lv_iconst (v := 2) hx hb dL_law_677 (by decide) ?_
  refine lv_iadd hx hb dL_law_678 ?_
  refine zz_top (v := nI (i + 2)) (nI_add i 2) ?_
  refine va_sld hx hb hX hbl hbA hS (i := nI (i + 2)) (vp_in_nI (by omega) (by omega)) dL_law_679 ?_
  refine lv_topi (fun v2 ev2 => ?_)
  refine lv_aload_n hx hb dL_law_680 rfl (lv_at hl 4 rfl) ?_
  refine lv_iload hx hb dL_law_681 (lv_at hl 0 rfl) ?_
  refine lv_iconst (v := 3) hx hb dL_law_683 (by decide) ?_
  refine lv_iadd hx hb dL_law_684 ?_
  refine zz_top (v := nI (i + 3)) (nI_add i 3) ?_
  refine va_sld hx hb hX hbl hbA hS (i := nI (i + 3)) (vp_in_nI (by omega) (by omega)) dL_law_685 ?_
  refine lv_topi (fun v3 ev3 => ?_)
  refine lv_aload_n hx hb dL_law_686 rfl (lv_at hl 4 rfl) ?_
  refine lv_iload hx hb dL_law_687 (lv_at hl 0 rfl) ?_
  refine lv_iconst (v := 4) hx hb dL_law_689 (by decide) ?_
  refine lv_iadd hx hb dL_law_690 ?_
  refine zz_top (v := nI (i + 4)) (nI_add i 4) ?_
  refine va_sld hx hb hX hbl hbA hS (i := nI (i + 4)) (vp_in_nI (by omega) (by omega)) dL_law_691 ?_
  refine lv_topi (fun v4 ev4 => ?_)
  refine va_calli (va_runV (As := [.int v1, .int v2, .int v3, .int v4]) (rest := []) ⟨hx, hb, hml, hown, hts⟩ (x_X11_come l dC dI ad E hEE A C nb H.size h.1.1 st sl so v1 v2 v3 v4 hn.1.1) (cwV 4 hts gT_X11_come_84 rfl rfl rfl (by decide +kernel) ⟨Nat.le_of_ble_eq_true rfl, Nat.le_of_ble_eq_true rfl⟩) ⟨fun a U g mk q => ⟨q.1, xPre.blind hEE q.2⟩, va_recv h.2.2.2.2.1 h.2.1 (ci := 10) (q0 := 0) rfl (xw_is (r := 0) (by omega) (xc_fix (r := 0) (by omega))), fun U hU hW => ⟨rfl, xPre.ofg hEE h.2.1 h.2.2.2.2.1 hE hS (h.fx hS) hU hW⟩⟩ rfl rfl hl.1 rfl (lv_room (Nat.le_of_ble_eq_true rfl)) dL_law_692 ⟨by omega, by omega⟩) hS (fun q _ z => h.fx hS q z) (h.fx hS) (fun r6 x7 t5 H8 locs ht hvm hwx hB hz1 hk1 hS => ?_)
  have h := h.cx (xB.at ht hB) hk1
  clear hB hz1 hk1 ht hvm
  refine lv_pop hx hb dL_law_695 rfl ?_
  refine lv_aload_n hx hb dL_law_696 rfl (lv_at hl 2 rfl) ?_
  refine lv_aload_n hx hb dL_law_697 rfl (lv_at hl 4 rfl) ?_
  refine lv_iload hx hb dL_law_698 (lv_at hl 0 rfl) ?_
  refine lv_iconst (v := 1) hx hb dL_law_700 (by decide) ?_
  refine lv_iadd hx hb dL_law_701 ?_
  refine zz_top (v := nI (i + 1)) (nI_add i 1) ?_
  refine va_sld hx hb hX hbl hbA hS (i := nI (i + 1)) (vp_in_nI (by omega) (by omega)) dL_law_702 ?_
  refine lv_topi (fun v9 ev9 => ?_)
  refine lv_aload_n hx hb dL_law_703 rfl (lv_at hl 4 rfl) ?_
  refine lv_iload hx hb dL_law_704 (lv_at hl 0 rfl) ?_
  refine lv_iconst (v := 2) hx hb dL_law_706 (by decide) ?_
  refine lv_iadd hx hb dL_law_707 ?_
  refine zz_top (v := nI (i + 2)) (nI_add i 2) ?_
  refine va_sld hx hb hX hbl hbA hS (i := nI (i + 2)) (vp_in_nI (by omega) (by omega)) dL_law_708 ?_
  refine lv_topi (fun v10 ev10 => ?_)
  refine lv_aload_n hx hb dL_law_709 rfl (lv_at hl 4 rfl) ?_
  refine lv_iload hx hb dL_law_710 (lv_at hl 0 rfl) ?_
  refine lv_iconst (v := 3) hx hb dL_law_712 (by decide) ?_
  refine lv_iadd hx hb dL_law_713 ?_
  refine zz_top (v := nI (i + 3)) (nI_add i 3) ?_
  refine va_sld hx hb hX hbl hbA hS (i := nI (i + 3)) (vp_in_nI (by omega) (by omega)) dL_law_714 ?_
  refine lv_topi (fun v11 ev11 => ?_)
  refine lv_aload_n hx hb dL_law_715 rfl (lv_at hl 4 rfl) ?_
  refine lv_iload hx hb dL_law_716 (lv_at hl 0 rfl) ?_
  refine lv_iconst (v := 4) hx hb dL_law_718 (by decide) ?_
  refine lv_iadd hx hb dL_law_719 ?_
  refine zz_top (v := nI (i + 4)) (nI_add i 4) ?_
  refine va_sld hx hb hX hbl hbA hS (i := nI (i + 4)) (vp_in_nI (by omega) (by omega)) dL_law_720 ?_
  refine lv_topi (fun v12 ev12 => ?_)
  refine va_calli (va_runV (As := [.int v9, .int v10, .int v11, .int v12]) (rest := []) ⟨hx, hb, hml, hown, hts⟩ (m_come_ l dC dI ar cy H8.size h.1.2.1 st2 sl2 v9 v10 v11 v12 hn.2.1.1) (cwV 4 hts gT_X12_come__88 rfl rfl rfl (by decide +kernel) ⟨Nat.le_of_ble_eq_true rfl, Nat.le_of_ble_eq_true rfl⟩) ⟨fun a U g mk q => ⟨q.1, mPre.blind q.2⟩, va_recv h.2.2.2.2.2.1 h.2.2.1 (ci := 11) (q0 := 0) rfl rfl, fun U hU hW => ⟨rfl, mPre.of h.2.2.1 h.2.2.2.2.2.1 hU hW⟩⟩ rfl rfl hl.1 rfl (lv_room (Nat.le_of_ble_eq_true rfl)) dL_law_721 ⟨by omega, by omega⟩) hS (fun q _ z => h.fm hS q z) (h.fm hS) (fun r14 x15 t13 H16 locs ht hvm hwm hB hz1 hk1 hS => ?_)
  have h := h.cm (mB.at ht hB) hk1
  clear hB hz1 hk1 ht hvm
  refine lv_pop hx hb dL_law_724 rfl ?_
  refine lv_goto (tgt := 1393) hx hb dL_law_725 (by decide) ?_
  obtain ⟨hM, hQ, hmf⟩ := hwm
  obtain ⟨hG, hso, hxf⟩ := hwx
  refine W.widen (k := nc + 5) (n := ns + 170) (by omega) (by omega) ?_
  exact kk _ _ _ _ _ _ _ _ _ _ _ rfl h ⟨⟨hG.1, by rw [hso]; exact hn.1.2.1, hn.1.2.2.1.mg hG (by decide), by rw [hso]; exact hn.1.2.2.2.mgs hG (by decide) (by decide)⟩, ⟨hM.1, hn.2.1.2.1.mg hM (by decide), hn.2.1.2.2.1.mg hM (by decide), hn.2.1.2.2.2.mg hM (by decide)⟩, hn.ct hG hM (by decide) (by decide) (by decide) (by decide), ⟨hn.ck hG hM (by decide) (by decide), ⟨hn.2.2.2.2.1.ni hxf hM (by decide) (by decide) hQ (by decide) (by decide), ((hG.2 0 16 (by decide)).trans hn.2.2.2.2.2).trans (hM.2 0 10 (by decide)).symm⟩⟩⟩ hS hl
set_option maxHeartbeats 4000000 in
set_option maxRecDepth 100000 in
theorem lc_days {p : Program} {e : Env} {s : State} {m : MethodId} {below : List Frame} {meth : Method} {c : Code} (l : Launch) {b L : Nat} {xs : Nat → Int32} (hL : L ≤ 3072) (C0 : lw_At p s m meth c b L xs) (dC : Nat → ClassId) (dI : Nat → Nat → Nat) (ad : Nat → Nat) (E : EP) (hEE : EC ad E) (hE : E (LF s) s s.heap) {A : Nat → Nat} {C : Nat → ClassId} {nb : Nat} {st : Nat → Nat → Int32} {sl : Nat → Nat → Int64} {so : Nat → XR} {ar : Nat → Nat} {cy : Nat → ClassId} {st2 : Nat → Nat → Int32} {sl2 : Nat → Nat → Int64} {a0 o : Nat} {yo : ClassId} {H : Heap} {locs : List Loc} {ls : Array Slot} (i : Nat) (hi : i + 6 ≤ L) (hA0 : A 0 = a0) (h : LH dC dI s H A C nb st sl so ar cy st2 sl2 o yo) (hn : LN ad nb st sl so st2 sl2) (hS : va_S (LF s) s.heap H locs) (hl : lv_has ls 8 [(4, .int (nI i)), (3, .ref o), (2, .ref (ar 0)), (1, .ref a0), (0, .ref b)]) {nc ns : Nat} (h1 : nc + 5 ≤ room_1.cells) (h2 : ns + 170 ≤ room_1.slots) {Q : State → Prop} (kk : LK p l e s m b below meth c dC dI ad ar cy a0 o yo i (nc + 5) (ns + 170) 1393 Q) : W p l e room_1 s m #[Value.ref b] below meth c H locs nc ns Q (F0 m 728 ls []) := by
  subst hA0
  obtain ⟨hx, hb, hr, hml, hown, hts, hX, hbl, hlocks, hgv⟩ := id C0
  have hbA : ¬ LF s b := fun z => absurd hbl (Nat.not_lt.mpr z)
  obtain ⟨g, hg0, hg1, hg2, B, hgB⟩ := hn.2.2.1
  refine lv_aload_n hx hb dL_law_728 rfl (lv_at hl 3 rfl) ?_
  refine lv_aload_n hx hb dL_law_729 rfl (lv_at hl 4 rfl) ?_
  refine lv_iload hx hb dL_law_730 (lv_at hl 0 rfl) ?_
  refine lv_iconst (v := 1) hx hb dL_law_732 (by decide) ?_
  refine lv_iadd hx hb dL_law_733 ?_
  refine zz_top (v := nI (i + 1)) (nI_add i 1) ?_
  refine va_sld hx hb hX hbl hbA hS (i := nI (i + 1)) (vp_in_nI (by omega) (by omega)) dL_law_734 ?_
  refine lv_topi (fun v1 ev1 => ?_)
  refine lv_aload_n hx hb dL_law_735 rfl (lv_at hl 4 rfl) ?_
  refine lv_iload hx hb dL_law_736 (lv_at hl 0 rfl) ?_
  refine lv_iconst (v := 2) hx hb dL_law_738 (by decide) ?_
  refine lv_iadd hx hb dL_law_739 ?_
  refine zz_top (v := nI (i + 2)) (nI_add i 2) ?_
  refine va_sld hx hb hX hbl hbA hS (i := nI (i + 2)) (vp_in_nI (by omega) (by omega)) dL_law_740 ?_
  refine lv_topi (fun v2 ev2 => ?_)
  refine va_calli (va_runV (As := [.int v1, .int v2]) (rest := []) ⟨hx, hb, hml, hown, hts⟩ (x_X11_days l dC dI ad E hEE A C nb H.size h.1.1 st sl so v1 v2 hn.1.1) (cwV 2 hts gT_X11_days_89 rfl rfl rfl (by decide +kernel) ⟨Nat.le_of_ble_eq_true rfl, Nat.le_of_ble_eq_true rfl⟩) ⟨fun a U g mk q => ⟨q.1, xPre.blind hEE q.2⟩, va_recv h.2.2.2.2.1 h.2.1 (ci := 10) (q0 := 0) rfl (xw_is (r := 0) (by omega) (xc_fix (r := 0) (by omega))), fun U hU hW => ⟨rfl, xPre.ofg hEE h.2.1 h.2.2.2.2.1 hE hS (h.fx hS) hU hW⟩⟩ rfl rfl hl.1 rfl (lv_room (Nat.le_of_ble_eq_true rfl)) dL_law_741 ⟨by omega, by omega⟩) hS (fun q _ z => h.fx hS q z) (h.fx hS) (fun r4 x5 t3 H6 locs ht hvm hwx hB hz1 hk1 hS => ?_)
  have h := h.cx (xB.at ht hB) hk1
  clear hB hz1 hk1 ht hvm
  refine lv_pop hx hb dL_law_744 rfl ?_
  refine lv_aload_n hx hb dL_law_745 rfl (lv_at hl 2 rfl) ?_
  refine lv_aload_n hx hb dL_law_746 rfl (lv_at hl 4 rfl) ?_
  refine lv_iload hx hb dL_law_747 (lv_at hl 0 rfl) ?_
  refine lv_iconst (v := 1) hx hb dL_law_749 (by decide) ?_
  refine lv_iadd hx hb dL_law_750 ?_
  refine zz_top (v := nI (i + 1)) (nI_add i 1) ?_
  refine va_sld hx hb hX hbl hbA hS (i := nI (i + 1)) (vp_in_nI (by omega) (by omega)) dL_law_751 ?_
  refine lv_topi (fun v7 ev7 => ?_)
  refine lv_aload_n hx hb dL_law_752 rfl (lv_at hl 4 rfl) ?_
  refine lv_iload hx hb dL_law_753 (lv_at hl 0 rfl) ?_
  refine lv_iconst (v := 2) hx hb dL_law_755 (by decide) ?_
  refine lv_iadd hx hb dL_law_756 ?_
  refine zz_top (v := nI (i + 2)) (nI_add i 2) ?_
  refine va_sld hx hb hX hbl hbA hS (i := nI (i + 2)) (vp_in_nI (by omega) (by omega)) dL_law_757 ?_
  refine lv_topi (fun v8 ev8 => ?_)
  refine va_calli (va_runV (As := [.int v7, .int v8]) (rest := []) ⟨hx, hb, hml, hown, hts⟩ (m_days l dC dI ar cy H6.size h.1.2.1 st2 sl2 v7 v8 hn.2.1.1) (cwV 2 hts gT_X12_days_92 rfl rfl rfl (by decide +kernel) ⟨Nat.le_of_ble_eq_true rfl, Nat.le_of_ble_eq_true rfl⟩) ⟨fun a U g mk q => ⟨q.1, mPre.blind q.2⟩, va_recv h.2.2.2.2.2.1 h.2.2.1 (ci := 11) (q0 := 0) rfl rfl, fun U hU hW => ⟨rfl, mPre.of h.2.2.1 h.2.2.2.2.2.1 hU hW⟩⟩ rfl rfl hl.1 rfl (lv_room (Nat.le_of_ble_eq_true rfl)) dL_law_758 ⟨by omega, by omega⟩) hS (fun q _ z => h.fm hS q z) (h.fm hS) (fun r10 x11 t9 H12 locs ht hvm hwm hB hz1 hk1 hS => ?_)
  have h := h.cm (mB.at ht hB) hk1
  clear hB hz1 hk1 ht hvm
  refine lv_pop hx hb dL_law_761 rfl ?_
  refine lv_goto (tgt := 1393) hx hb dL_law_762 (by decide) ?_
  obtain ⟨hM, hQ, hmf⟩ := hwm
  obtain ⟨hG, hso, hxf⟩ := hwx
  refine W.widen (k := nc + 5) (n := ns + 170) (by omega) (by omega) ?_
  exact kk _ _ _ _ _ _ _ _ _ _ _ rfl h ⟨⟨hG.1, by rw [hso]; exact hn.1.2.1, hn.1.2.2.1.mg hG (by decide), by rw [hso]; exact hn.1.2.2.2.mgs hG (by decide) (by decide)⟩, ⟨hM.1, hn.2.1.2.1.mg hM (by decide), hn.2.1.2.2.1.mg hM (by decide), hn.2.1.2.2.2.mg hM (by decide)⟩, hn.ct hG hM (by decide) (by decide) (by decide) (by decide), ⟨hn.ck hG hM (by decide) (by decide), ⟨hn.2.2.2.2.1.ni hxf hM (by decide) (by decide) hQ (by decide) (by decide), ((hG.2 0 16 (by decide)).trans hn.2.2.2.2.2).trans (hM.2 0 10 (by decide)).symm⟩⟩⟩ hS hl
set_option maxHeartbeats 4000000 in
set_option maxRecDepth 100000 in
theorem lc_undo {p : Program} {e : Env} {s : State} {m : MethodId} {below : List Frame} {meth : Method} {c : Code} (l : Launch) {b L : Nat} {xs : Nat → Int32} (hL : L ≤ 3072) (C0 : lw_At p s m meth c b L xs) (dC : Nat → ClassId) (dI : Nat → Nat → Nat) (ad : Nat → Nat) (E : EP) (hEE : EC ad E) (hE : E (LF s) s s.heap) {A : Nat → Nat} {C : Nat → ClassId} {nb : Nat} {st : Nat → Nat → Int32} {sl : Nat → Nat → Int64} {so : Nat → XR} {ar : Nat → Nat} {cy : Nat → ClassId} {st2 : Nat → Nat → Int32} {sl2 : Nat → Nat → Int64} {a0 o : Nat} {yo : ClassId} {H : Heap} {locs : List Loc} {ls : Array Slot} (i : Nat) (hi : i + 6 ≤ L) (hA0 : A 0 = a0) (h : LH dC dI s H A C nb st sl so ar cy st2 sl2 o yo) (hn : LN ad nb st sl so st2 sl2) (hS : va_S (LF s) s.heap H locs) (hl : lv_has ls 8 [(4, .int (nI i)), (3, .ref o), (2, .ref (ar 0)), (1, .ref a0), (0, .ref b)]) {nc ns : Nat} (h1 : nc + 5 ≤ room_1.cells) (h2 : ns + 170 ≤ room_1.slots) {Q : State → Prop} (kk : LK p l e s m b below meth c dC dI ad ar cy a0 o yo i (nc + 5) (ns + 170) 1393 Q) : W p l e room_1 s m #[Value.ref b] below meth c H locs nc ns Q (F0 m 765 ls []) := by
  subst hA0
  obtain ⟨hx, hb, hr, hml, hown, hts, hX, hbl, hlocks, hgv⟩ := id C0
  have hbA : ¬ LF s b := fun z => absurd hbl (Nat.not_lt.mpr z)
  obtain ⟨g, hg0, hg1, hg2, B, hgB⟩ := hn.2.2.1
  refine lv_aload_n hx hb dL_law_765 rfl (lv_at hl 3 rfl) ?_
  refine va_calli (va_runV (As := []) (rest := []) ⟨hx, hb, hml, hown, hts⟩ (x_X11_undo l dC dI ad E hEE A C nb H.size h.1.1 st sl so hn.1.1) (cwV 0 hts gT_X11_undo_93 rfl rfl rfl (by decide +kernel) ⟨Nat.le_of_ble_eq_true rfl, Nat.le_of_ble_eq_true rfl⟩) ⟨fun a U g mk q => ⟨q.1, xPre.blind hEE q.2⟩, va_recv h.2.2.2.2.1 h.2.1 (ci := 10) (q0 := 0) rfl (xw_is (r := 0) (by omega) (xc_fix (r := 0) (by omega))), fun U hU hW => ⟨rfl, xPre.ofg hEE h.2.1 h.2.2.2.2.1 hE hS (h.fx hS) hU hW⟩⟩ rfl rfl hl.1 rfl (lv_room (Nat.le_of_ble_eq_true rfl)) dL_law_766 ⟨by omega, by omega⟩) hS (fun q _ z => h.fx hS q z) (h.fx hS) (fun r2 x3 t1 H4 locs ht hvm hwx hB hz1 hk1 hS => ?_)
  have h := h.cx (xB.at ht hB) hk1
  clear hB hz1 hk1 ht hvm
  refine lv_pop hx hb dL_law_769 rfl ?_
  refine lv_aload_n hx hb dL_law_770 rfl (lv_at hl 2 rfl) ?_
  refine va_calli (va_runV (As := []) (rest := []) ⟨hx, hb, hml, hown, hts⟩ (m_undo l dC dI ar cy H4.size h.1.2.1 st2 sl2 hn.2.1.1) (cwV 0 hts gT_X12_undo_96 rfl rfl rfl (by decide +kernel) ⟨Nat.le_of_ble_eq_true rfl, Nat.le_of_ble_eq_true rfl⟩) ⟨fun a U g mk q => ⟨q.1, mPre.blind q.2⟩, va_recv h.2.2.2.2.2.1 h.2.2.1 (ci := 11) (q0 := 0) rfl rfl, fun U hU hW => ⟨rfl, mPre.of h.2.2.1 h.2.2.2.2.2.1 hU hW⟩⟩ rfl rfl hl.1 rfl (lv_room (Nat.le_of_ble_eq_true rfl)) dL_law_771 ⟨by omega, by omega⟩) hS (fun q _ z => h.fm hS q z) (h.fm hS) (fun r6 x7 t5 H8 locs ht hvm hwm hB hz1 hk1 hS => ?_)
  have h := h.cm (mB.at ht hB) hk1
  clear hB hz1 hk1 ht hvm
  refine lv_pop hx hb dL_law_774 rfl ?_
  refine lv_goto (tgt := 1393) hx hb dL_law_775 (by decide) ?_
  obtain ⟨hM, hQ, hmf⟩ := hwm
  obtain ⟨hG, hso, hxf⟩ := hwx
  refine W.widen (k := nc + 5) (n := ns + 170) (by omega) (by omega) ?_
  exact kk _ _ _ _ _ _ _ _ _ _ _ rfl h ⟨⟨hG.1, by rw [hso]; exact hn.1.2.1, hn.1.2.2.1.mg hG (by decide), by rw [hso]; exact hn.1.2.2.2.mgs hG (by decide) (by decide)⟩, ⟨hM.1, hn.2.1.2.1.mg hM (by decide), hn.2.1.2.2.1.mg hM (by decide), hn.2.1.2.2.2.mg hM (by decide)⟩, hn.ct hG hM (by decide) (by decide) (by decide) (by decide), ⟨hn.ck hG hM (by decide) (by decide), ⟨hn.2.2.2.2.1.ni hxf hM (by decide) (by decide) hQ (by decide) (by decide), ((hG.2 0 16 (by decide)).trans hn.2.2.2.2.2).trans (hM.2 0 10 (by decide)).symm⟩⟩⟩ hS hl
