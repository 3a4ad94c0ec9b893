set_option maxHeartbeats 4000000 in
set_option maxRecDepth 100000 in
theorem x_X3_mark (l : Launch) (dC : Nat → ClassId) (dI : Nat → Nat → Nat) (ad : Nat → Nat) (E : EP) (hEE : EC ad E) (A : Nat → Nat) (C : Nat → ClassId) (nb sz : Nat) (hN : XN A) (st : Nat → Nat → Int32) (sl : Nat → Nat → Int64) (so : Nat → XR) (hI : XI st) : Met l yX3_mark wsX3_mark ({ frames := 2, cells := 0, slots := 0, locals := 43 }) (va_Pc [.ref (A 11), .ref (A (36 + 20 * 0))] (xPre E dC dI A C nb sz st sl so)) (va_Qv (fun (x : XT) => XG [1, 2, 3, 4, 5, 6, 8, 9, 10, 11, 12, 13, 14, 15] st x.1 ∧ x.2.2 = so ∧ (NI st sl x.1 x.2.1 ∧ MKD x.1 x.2.1)) (xB dC dI A C nb) (XA A sz)) 0 0 (XA A sz) := by
  refine Met.ofW (cc := cX3_mark) (maxL := 2) (ret := none) (by decide) rfl ?_
  intro p e s m args below meth c s₁ B hml hv
  obtain ⟨rfl, hsz, hP, hK, hE⟩ := hv
  have hx := B.exec
  have hb := B.bytes
  have hr := B.returns
  have hts := atoms_spec (ws := wsX3_mark) B.pre
  have hown : s.vm.findClass RX3 = some m.cls := findClass_of_methodNamed B.named
  subst hsz
  have hEv := hEE.1 _ _ _ hE
  have hS : va_S (XA A s.heap.size) s.heap s.heap [] := va_S.rf
  have hG : XG [1, 2, 3, 4, 5, 6, 8, 9, 10, 11, 12, 13, 14, 15] st st := XG.rf hI
  have hl := lv_entry ([.ref (A 11), .ref (A (36 + 20 * 0))]) (n := 2) (Nat.le_of_ble_eq_true rfl)
  rw [lg_entry_eq]
  generalize (lg_sl ([.ref (A 11), .ref (A (36 + 20 * 0))]) ++ List.replicate (2 - (lg_sl ([.ref (A 11), .ref (A (36 + 20 * 0))])).length) Slot.unset).toArray = ls at hl ⊢
  have hl : lv_has ls 2 [(0, .ref (A 11)), (1, .ref (A (36 + 20 * 0)))] := hl
  refine lv_aload_n hx hb dX3_mark_0 rfl (lv_at hl 0 rfl) ?_
  refine va_get (D := (dC, dI)) (ci := 4) (v := .ref (A 12)) (C := RX3) (T := TX3) (N := 3) hx hb hts ii_X3_mark_X3 hown hK hP 11 (xw_is (r := 11) (by omega) (xc_fix (r := 11) (by omega))) rfl 0 (by decide) (hts _ mm_X3_mark_1) (fun _ hh => hh) rfl dX3_mark_1 ?_
  refine lv_aload_n hx hb dX3_mark_4 rfl (lv_at hl 0 rfl) ?_
  refine va_get (D := (dC, dI)) (ci := 4) (v := .int (st 11 1)) (C := RX3) (T := TX3) (N := 3) hx hb hts ii_X3_mark_X3 hown hK hP 11 (xw_is (r := 11) (by omega) (xc_fix (r := 11) (by omega))) rfl 1 (by decide) (hts _ mm_X3_mark_2) (fun _ hh => hh) rfl dX3_mark_5 ?_
  obtain ⟨n1, hn1, en1⟩ := hG.1.at (r := 11) (k := 1) (b := 9) (by decide : xrg 11 1 = 9) (by decide)
  refine zz_top (v := nI n1) (by exact en1) ?_
  refine va_aldq hx hb hK hP 12 12 (xw_is (r := 12) (by omega) (xc_fix (r := 12) (by omega))) (xt_is (r := 12) (by omega) rfl) (i := (nI n1)) (vp_in_nI (by omega) (by decide)) dX3_mark_8 ?_
  refine zz_topq (r := some (A (36 + 20 * (2 + n1)))) (by rw [nI_clamp (by omega)]; exact congrArg some (congrArg A (by omega))) ?_
  refine lv_aload_n hx hb dX3_mark_9 rfl (lv_at hl 1 rfl) ?_
  refine va_callv (va_runV (As := [.ref (A (36 + 20 * 0))]) (rest := []) ⟨hx, hb, hml, hown, hts⟩ (x_X4_copyFrom l dC dI ad E hEE A C nb _ hN st sl so (2 + n1) 0 (by omega) (by omega) hG.1 (by omega)) (cwV 1 hts gX3_mark_X4_copyFrom rfl rfl rfl (by decide +kernel) ⟨Nat.le_of_ble_eq_true rfl, Nat.le_of_ble_eq_true rfl⟩) ⟨fun a U g mk q => ⟨q.1, xPre.blind hEE q.2⟩, va_recv hK hP (ci := 5) (q0 := (36 + 20 * (2 + n1))) rfl (xw_is (r := (36 + 20 * (2 + n1))) (by omega) (xc_pk (i := (2 + n1)) (o := 0) (by omega) (by omega))), fun U hU hW => ⟨rfl, xPre.of hEE hP hK hE hS hU hW⟩⟩ rfl rfl hl.1 rfl (lv_room (Nat.le_of_ble_eq_true rfl)) dX3_mark_10 ⟨Nat.le_of_ble_eq_true rfl, Nat.le_of_ble_eq_true rfl⟩) hS (fun q _ h => XA.le hS.1 q h) (XA.le hS.1) (fun x t H locs ht hvm hw hB _ _ hS => ?_)
  have hP := xB.at ht hB
  clear hB ht hvm
  obtain ⟨st3, sl4, so5⟩ := x
  obtain ⟨hGst3, hOst3, hw⟩ := hw
  dsimp only at hGst3 hOst3 hw
  replace hOst3 := hOst3.symm
  subst hOst3
  have hP : va_P (dC, dI) vwCl (xw A C nb st3 sl4 so) _ := hP
  have hG : XG [1, 2, 3, 4, 5, 6, 8, 9, 10, 11, 12, 13, 14, 15] st st3 := hG.tr hGst3 (by decide)
  have hf6 := hw
  exact W.vret hx hb hr (fun t ht hW => ⟨⟨(st3, sl4, so), rfl, ⟨hG, rfl, ⟨mark_ni (n := n1) (by omega) en1 hf6 hGst3 (by decide), mark_mk (n := n1) (by omega) en1 hf6 hGst3 (by decide)⟩⟩, xB.of ht hP⟩, hS.F ht⟩) hS.2.2 dX3_mark_13
set_option maxHeartbeats 4000000 in
set_option maxRecDepth 100000 in
theorem x_X3_keepMarked (l : Launch) (dC : Nat → ClassId) (dI : Nat → Nat → Nat) (ad : Nat → Nat) (E : EP) (hEE : EC ad E) (A : Nat → Nat) (C : Nat → ClassId) (nb sz : Nat) (hN : XN A) (st : Nat → Nat → Int32) (sl : Nat → Nat → Int64) (so : Nat → XR) (hI : XI st) : Met l yX3_keepMarked wsX3_keepMarked ({ frames := 1, cells := 0, slots := 0, locals := 21 }) (va_Pc [.ref (A 11)] (xPre E dC dI A C nb sz st sl so)) (va_Qv (fun (x : XT) => XG [1, 2, 3, 4, 5, 6, 7, 8, 9, 10, 11, 12, 13, 14] st x.1 ∧ LGq sl x.2.1 ∧ x.2.2 = so ∧ ((HC st sl → MKD st sl → HC x.1 x.2.1))) (xB dC dI A C nb) (XA A sz)) 0 0 (XA A sz) := by
  refine Met.ofW (cc := cX3_keepMarked) (maxL := 1) (ret := none) (by decide) rfl ?_
  intro p e s m args below meth c s₁ B hml hv
  obtain ⟨rfl, hsz, hP, hK, hE⟩ := hv
  have hx := B.exec
  have hb := B.bytes
  have hr := B.returns
  have hts := atoms_spec (ws := wsX3_keepMarked) B.pre
  have hown : s.vm.findClass RX3 = some m.cls := findClass_of_methodNamed B.named
  subst hsz
  have hEv := hEE.1 _ _ _ hE
  have hS : va_S (XA A s.heap.size) s.heap s.heap [] := va_S.rf
  have hG : XG [1, 2, 3, 4, 5, 6, 7, 8, 9, 10, 11, 12, 13, 14] st st := XG.rf hI
  have hl := lv_entry ([.ref (A 11)]) (n := 1) (Nat.le_of_ble_eq_true rfl)
  rw [lg_entry_eq]
  generalize (lg_sl ([.ref (A 11)]) ++ List.replicate (1 - (lg_sl ([.ref (A 11)])).length) Slot.unset).toArray = ls at hl ⊢
  have hl : lv_has ls 1 [(0, .ref (A 11))] := hl
  have hL : LGq sl sl := LGq.rf
  refine lv_aload_n hx hb dX3_keepMarked_0 rfl (lv_at hl 0 rfl) ?_
  refine lv_aload_n hx hb dX3_keepMarked_1 rfl (lv_at hl 0 rfl) ?_
  refine va_get (D := (dC, dI)) (ci := 4) (v := .int (st 11 1)) (C := RX3) (T := TX3) (N := 3) hx hb hts ii_X3_keepMarked_X3 hown hK hP 11 (xw_is (r := 11) (by omega) (xc_fix (r := 11) (by omega))) rfl 1 (by decide) (hts _ mm_X3_keepMarked_1) (fun _ hh => hh) rfl dX3_keepMarked_2 ?_
  obtain ⟨n1, hn1, en1⟩ := hG.1.at (r := 11) (k := 1) (b := 9) (by decide : xrg 11 1 = 9) (by decide)
  refine zz_top (v := nI n1) (by exact en1) ?_
  refine lv_iconst (v := 1) hx hb dX3_keepMarked_5 (by decide) ?_
  refine lv_iadd hx hb dX3_keepMarked_6 ?_
  refine zz_top (v := nI (n1 + 1)) (nI_add n1 1) ?_
  refine lv_bipush (v := 9) hx hb dX3_keepMarked_7 (by decide) ?_
  refine lv_irem hx hb dX3_keepMarked_9 (by decide) ?_
  have ho2 : ((n1 + 1) % 9) < 9 := Nat.mod_lt _ (by decide)
  refine zz_top (v := nI ((n1 + 1) % 9)) (nI_remN (b := 9) (by omega) (by omega)) ?_
  refine va_put (D := (dC, dI)) (ci := 4) (v := .int (nI ((n1 + 1) % 9))) (ty := .int) (C := RX3) (T := TX3) (N := 3) hx hb hts ii_X3_keepMarked_X3 tyX3 tyX3_ok nmX3 hown hK hP (xD hN _ _ _ _ _ _) hS 11 (xw_is (r := 11) (by omega) (xc_fix (r := 11) (by omega))) rfl 1 (by decide) (hts _ mm_X3_keepMarked_1) (fun _ hh => hh) rfl (by decide +kernel) rfl rfl (Nat.le_of_ble_eq_true rfl) dX3_keepMarked_10 (fun H locs hP _ hS => ?_)
  have hP : va_P (dC, dI) vwCl (xw A C nb (up2 st 11 1 (nI ((n1 + 1) % 9))) sl so) H := by rw [← xset (r := 11) (k := 1) (v := (nI ((n1 + 1) % 9))) (xc_fix (r := 11) (by omega))]; exact hP
  obtain ⟨st3, est3⟩ : ∃ y, y = up2 st 11 1 (nI ((n1 + 1) % 9)) := ⟨_, rfl⟩
  have hG : XG [1, 2, 3, 4, 5, 6, 7, 8, 9, 10, 11, 12, 13, 14] st st3 := by rw [est3]; exact hG.up (xn (n := ((n1 + 1) % 9)) (b := 9) (by decide : xrg 11 1 = 9) (by omega)) (xpn (c := 15) (by decide : xcl 11 1 = 15) (by decide))
  rw [← est3] at hP
  refine lv_aload_n hx hb dX3_keepMarked_13 rfl (lv_at hl 0 rfl) ?_
  refine lv_aload_n hx hb dX3_keepMarked_14 rfl (lv_at hl 0 rfl) ?_
  refine va_get (D := (dC, dI)) (ci := 4) (v := .int (st3 11 2)) (C := RX3) (T := TX3) (N := 3) hx hb hts ii_X3_keepMarked_X3 hown hK hP 11 (xw_is (r := 11) (by omega) (xc_fix (r := 11) (by omega))) rfl 2 (by decide) (hts _ mm_X3_keepMarked_2) (fun _ hh => hh) rfl dX3_keepMarked_15 ?_
  obtain ⟨z4, ez4⟩ : ∃ y : Int32, st3 11 2 = y := ⟨_, rfl⟩
  refine zz_top (v := z4) (by exact ez4) ?_
  refine lv_iconst (v := 1) hx hb dX3_keepMarked_18 (by decide) ?_
  refine lv_iadd hx hb dX3_keepMarked_19 ?_
  refine lv_topi (fun z5 ez5 => ?_)
  refine lv_bipush (v := 8) hx hb dX3_keepMarked_20 (by decide) ?_
  refine va_mmin hx hb (by rw [hml]; exact hl.1.symm) hown (hts _ mm_X3_keepMarked_3) (hts _ mm_X3_keepMarked_4) (hts _ mm_X3_keepMarked_5) (hts _ mm_X3_keepMarked_6) (Nat.le_of_ble_eq_true rfl) (Nat.le_of_ble_eq_true rfl) (Nat.le_of_ble_eq_true rfl) (Nat.le_of_ble_eq_true rfl) dX3_keepMarked_22 ?_
  refine lv_topi (fun z6 ez6 => ?_)
  refine va_put (D := (dC, dI)) (ci := 4) (v := .int z6) (ty := .int) (C := RX3) (T := TX3) (N := 3) hx hb hts ii_X3_keepMarked_X3 tyX3 tyX3_ok nmX3 hown hK hP (xD hN _ _ _ _ _ _) hS 11 (xw_is (r := 11) (by omega) (xc_fix (r := 11) (by omega))) rfl 2 (by decide) (hts _ mm_X3_keepMarked_2) (fun _ hh => hh) rfl (by decide +kernel) rfl rfl (Nat.le_of_ble_eq_true rfl) dX3_keepMarked_25 (fun H locs hP _ hS => ?_)
  have hP : va_P (dC, dI) vwCl (xw A C nb (up2 st3 11 2 z6) sl so) H := by rw [← xset (r := 11) (k := 2) (v := z6) (xc_fix (r := 11) (by omega))]; exact hP
  obtain ⟨st7, est7⟩ : ∃ y, y = up2 st3 11 2 z6 := ⟨_, rfl⟩
  have hG : XG [1, 2, 3, 4, 5, 6, 7, 8, 9, 10, 11, 12, 13, 14] st st7 := by rw [est7]; exact hG.up (xz (r := 11) (k := 2) (by decide : xrg 11 2 = 0)) (xpn (c := 15) (by decide : xcl 11 2 = 15) (by decide))
  rw [← est7] at hP
  exact W.vret hx hb hr (fun t ht hW => ⟨⟨(st7, sl, so), rfl, ⟨hG, hL, rfl, keep_ok (n := n1) (z := z4) (by omega) en1 (by rw [← ez4, est3, up2_ne (r := 11) (k := 1) (a := 11) (j := 2) _ _ (by omega)]) (by show st7 11 1 = _; rw [est7, up2_ne (r := 11) (k := 2) (a := 11) (j := 1) _ _ (by omega), est3, up2_same]) (by show st7 11 2 = _; rw [est7, up2_same, ez6, ez5]) hG (by decide) hL⟩, xB.of ht hP⟩, hS.F ht⟩) hS.2.2 dX3_keepMarked_28
set_option maxHeartbeats 4000000 in
set_option maxRecDepth 100000 in
theorem x_X3_takeBack (l : Launch) (dC : Nat → ClassId) (dI : Nat → Nat → Nat) (ad : Nat → Nat) (E : EP) (hEE : EC ad E) (A : Nat → Nat) (C : Nat → ClassId) (nb sz : Nat) (hN : XN A) (st : Nat → Nat → Int32) (sl : Nat → Nat → Int64) (so : Nat → XR) (hI : XI st) : Met l yX3_takeBack wsX3_takeBack ({ frames := 2, cells := 0, slots := 0, locals := 43 }) (va_Pc [.ref (A 11), .ref (A (36 + 20 * 0))] (xPre E dC dI A C nb sz st sl so)) (va_Qi (fun (r : Int32) (x : XT) => XG [1, 2, 3, 4, 5, 6, 8, 9, 10, 11, 12, 13, 14] st x.1 ∧ x.2.2 = so ∧ ((r = 1 ∧ NI st sl x.1 x.2.1) ∨ (r = 0 ∧ NI st sl x.1 x.2.1))) (xB dC dI A C nb) (XA A sz)) 0 0 (XA A sz) := by
  refine Met.ofW (cc := cX3_takeBack) (maxL := 2) (ret := (some .boolean)) (by decide) rfl ?_
  intro p e s m args below meth c s₁ B hml hv
  obtain ⟨rfl, hsz, hP, hK, hE⟩ := hv
  have hx := B.exec
  have hb := B.bytes
  have hr := B.returns
  have hts := atoms_spec (ws := wsX3_takeBack) B.pre
  have hown : s.vm.findClass RX3 = some m.cls := findClass_of_methodNamed B.named
  subst hsz
  have hEv := hEE.1 _ _ _ hE
  have hS : va_S (XA A s.heap.size) s.heap s.heap [] := va_S.rf
  have hG : XG [1, 2, 3, 4, 5, 6, 8, 9, 10, 11, 12, 13, 14] st st := XG.rf hI
  have hl := lv_entry ([.ref (A 11), .ref (A (36 + 20 * 0))]) (n := 2) (Nat.le_of_ble_eq_true rfl)
  rw [lg_entry_eq]
  generalize (lg_sl ([.ref (A 11), .ref (A (36 + 20 * 0))]) ++ List.replicate (2 - (lg_sl ([.ref (A 11), .ref (A (36 + 20 * 0))])).length) Slot.unset).toArray = ls at hl ⊢
  have hl : lv_has ls 2 [(0, .ref (A 11)), (1, .ref (A (36 + 20 * 0)))] := hl
  refine lv_aload_n hx hb dX3_takeBack_0 rfl (lv_at hl 0 rfl) ?_
  refine va_get (D := (dC, dI)) (ci := 4) (v := .int (st 11 2)) (C := RX3) (T := TX3) (N := 3) hx hb hts ii_X3_takeBack_X3 hown hK hP 11 (xw_is (r := 11) (by omega) (xc_fix (r := 11) (by omega))) rfl 2 (by decide) (hts _ mm_X3_takeBack_1) (fun _ hh => hh) rfl dX3_takeBack_1 ?_
  obtain ⟨z1, ez1⟩ : ∃ y : Int32, st 11 2 = y := ⟨_, rfl⟩
  refine zz_top (v := z1) (by exact ez1) ?_
  refine lv_if_ne (tgt := 9) hx hb dX3_takeBack_4 (by decide) (fun c1 => ?_) (fun c1 => ?_)
  · refine lv_aload_n hx hb dX3_takeBack_9 rfl (lv_at hl 0 rfl) ?_
    refine lv_aload_n hx hb dX3_takeBack_10 rfl (lv_at hl 0 rfl) ?_
    refine va_get (D := (dC, dI)) (ci := 4) (v := .int (st 11 1)) (C := RX3) (T := TX3) (N := 3) hx hb hts ii_X3_takeBack_X3 hown hK hP 11 (xw_is (r := 11) (by omega) (xc_fix (r := 11) (by omega))) rfl 1 (by decide) (hts _ mm_X3_takeBack_2) (fun _ hh => hh) rfl dX3_takeBack_11 ?_
    obtain ⟨n2, hn2, en2⟩ := hG.1.at (r := 11) (k := 1) (b := 9) (by decide : xrg 11 1 = 9) (by decide)
    refine zz_top (v := nI n2) (by exact en2) ?_
    refine lv_bipush (v := 8) hx hb dX3_takeBack_14 (by decide) ?_
    refine lv_iadd hx hb dX3_takeBack_16 ?_
    refine zz_top (v := nI (n2 + 8)) (nI_add n2 8) ?_
    refine lv_bipush (v := 9) hx hb dX3_takeBack_17 (by decide) ?_
    refine lv_irem hx hb dX3_takeBack_19 (by decide) ?_
    have ho3 : ((n2 + 8) % 9) < 9 := Nat.mod_lt _ (by decide)
    refine zz_top (v := nI ((n2 + 8) % 9)) (nI_remN (b := 9) (by omega) (by omega)) ?_
    refine va_put (D := (dC, dI)) (ci := 4) (v := .int (nI ((n2 + 8) % 9))) (ty := .int) (C := RX3) (T := TX3) (N := 3) hx hb hts ii_X3_takeBack_X3 tyX3 tyX3_ok nmX3 hown hK hP (xD hN _ _ _ _ _ _) hS 11 (xw_is (r := 11) (by omega) (xc_fix (r := 11) (by omega))) rfl 1 (by decide) (hts _ mm_X3_takeBack_2) (fun _ hh => hh) rfl (by decide +kernel) rfl rfl (Nat.le_of_ble_eq_true rfl) dX3_takeBack_20 (fun H locs hP _ hS => ?_)
    have hP : va_P (dC, dI) vwCl (xw A C nb (up2 st 11 1 (nI ((n2 + 8) % 9))) sl so) H := by rw [← xset (r := 11) (k := 1) (v := (nI ((n2 + 8) % 9))) (xc_fix (r := 11) (by omega))]; exact hP
    obtain ⟨st4, est4⟩ : ∃ y, y = up2 st 11 1 (nI ((n2 + 8) % 9)) := ⟨_, rfl⟩
    have hG : XG [1, 2, 3, 4, 5, 6, 8, 9, 10, 11, 12, 13, 14] st st4 := by rw [est4]; exact hG.up (xn (n := ((n2 + 8) % 9)) (b := 9) (by decide : xrg 11 1 = 9) (by omega)) (xpn (c := 15) (by decide : xcl 11 1 = 15) (by decide))
    rw [← est4] at hP
    refine lv_aload_n hx hb dX3_takeBack_23 rfl (lv_at hl 0 rfl) ?_
    refine lv_dup hx hb dX3_takeBack_24 rfl ?_
    refine va_get (D := (dC, dI)) (ci := 4) (v := .int (st4 11 2)) (C := RX3) (T := TX3) (N := 3) hx hb hts ii_X3_takeBack_X3 hown hK hP 11 (xw_is (r := 11) (by omega) (xc_fix (r := 11) (by omega))) rfl 2 (by decide) (hts _ mm_X3_takeBack_1) (fun _ hh => hh) rfl dX3_takeBack_25 ?_
    refine zz_top (v := z1) (by show st4 11 2 = _; rw [est4, up2_ne (r := 11) (k := 1) (a := 11) (j := 2) _ _ (by omega), ez1]) ?_
    refine lv_iconst (v := 1) hx hb dX3_takeBack_28 (by decide) ?_
    refine lv_isub hx hb dX3_takeBack_29 ?_
    refine lv_topi (fun z5 ez5 => ?_)
    refine va_put (D := (dC, dI)) (ci := 4) (v := .int z5) (ty := .int) (C := RX3) (T := TX3) (N := 3) hx hb hts ii_X3_takeBack_X3 tyX3 tyX3_ok nmX3 hown hK hP (xD hN _ _ _ _ _ _) hS 11 (xw_is (r := 11) (by omega) (xc_fix (r := 11) (by omega))) rfl 2 (by decide) (hts _ mm_X3_takeBack_1) (fun _ hh => hh) rfl (by decide +kernel) rfl rfl (Nat.le_of_ble_eq_true rfl) dX3_takeBack_30 (fun H locs hP _ hS => ?_)
    have hP : va_P (dC, dI) vwCl (xw A C nb (up2 st4 11 2 z5) sl so) H := by rw [← xset (r := 11) (k := 2) (v := z5) (xc_fix (r := 11) (by omega))]; exact hP
    obtain ⟨st6, est6⟩ : ∃ y, y = up2 st4 11 2 z5 := ⟨_, rfl⟩
    have hG : XG [1, 2, 3, 4, 5, 6, 8, 9, 10, 11, 12, 13, 14] st st6 := by rw [est6]; exact hG.up (xz (r := 11) (k := 2) (by decide : xrg 11 2 = 0)) (xpn (c := 15) (by decide : xcl 11 2 = 15) (by decide))
    rw [← est6] at hP
    refine lv_aload_n hx hb dX3_takeBack_33 rfl (lv_at hl 1 rfl) ?_
    refine lv_aload_n hx hb dX3_takeBack_34 rfl (lv_at hl 0 rfl) ?_
    refine va_get (D := (dC, dI)) (ci := 4) (v := .ref (A 12)) (C := RX3) (T := TX3) (N := 3) hx hb hts ii_X3_takeBack_X3 hown hK hP 11 (xw_is (r := 11) (by omega) (xc_fix (r := 11) (by omega))) rfl 0 (by decide) (hts _ mm_X3_takeBack_3) (fun _ hh => hh) rfl dX3_takeBack_35 ?_
    refine lv_aload_n hx hb dX3_takeBack_38 rfl (lv_at hl 0 rfl) ?_
    refine va_get (D := (dC, dI)) (ci := 4) (v := .int (st6 11 1)) (C := RX3) (T := TX3) (N := 3) hx hb hts ii_X3_takeBack_X3 hown hK hP 11 (xw_is (r := 11) (by omega) (xc_fix (r := 11) (by omega))) rfl 1 (by decide) (hts _ mm_X3_takeBack_2) (fun _ hh => hh) rfl dX3_takeBack_39 ?_
    refine zz_top (v := (nI ((n2 + 8) % 9))) (by show st6 11 1 = _; rw [est6, up2_ne (r := 11) (k := 2) (a := 11) (j := 1) _ _ (by omega), est4, up2_same]) ?_
    refine va_aldq hx hb hK hP 12 12 (xw_is (r := 12) (by omega) (xc_fix (r := 12) (by omega))) (xt_is (r := 12) (by omega) rfl) (i := (nI ((n2 + 8) % 9))) (vp_in_nI (by omega) (by decide)) dX3_takeBack_42 ?_
    refine zz_topq (r := some (A (36 + 20 * (2 + ((n2 + 8) % 9))))) (by rw [nI_clamp (by omega)]; exact congrArg some (congrArg A (by omega))) ?_
    refine va_callv (va_runV (As := [.ref (A (36 + 20 * (2 + ((n2 + 8) % 9))))]) (rest := []) ⟨hx, hb, hml, hown, hts⟩ (x_X4_copyFrom l dC dI ad E hEE A C nb _ hN st6 sl so 0 (2 + ((n2 + 8) % 9)) (by omega) (by omega) hG.1 (by omega)) (cwV 1 hts gX3_takeBack_X4_copyFrom rfl rfl rfl (by decide +kernel) ⟨Nat.le_of_ble_eq_true rfl, Nat.le_of_ble_eq_true rfl⟩) ⟨fun a U g mk q => ⟨q.1, xPre.blind hEE q.2⟩, va_recv hK hP (ci := 5) (q0 := (36 + 20 * 0)) rfl (xw_is (r := (36 + 20 * 0)) (by omega) (xc_pk (i := 0) (o := 0) (by omega) (by omega))), fun U hU hW => ⟨rfl, xPre.of hEE hP hK hE hS hU hW⟩⟩ rfl rfl hl.1 rfl (lv_room (Nat.le_of_ble_eq_true rfl)) dX3_takeBack_43 ⟨Nat.le_of_ble_eq_true rfl, Nat.le_of_ble_eq_true rfl⟩) hS (fun q _ h => XA.le hS.1 q h) (XA.le hS.1) (fun x t H locs ht hvm hw hB _ _ hS => ?_)
    have hP := xB.at ht hB
    clear hB ht hvm
    obtain ⟨st8, sl9, so10⟩ := x
    obtain ⟨hGst8, hOst8, hw⟩ := hw
    dsimp only at hGst8 hOst8 hw
    replace hOst8 := hOst8.symm
    subst hOst8
    have hP : va_P (dC, dI) vwCl (xw A C nb st8 sl9 so) _ := hP
    have hG : XG [1, 2, 3, 4, 5, 6, 8, 9, 10, 11, 12, 13, 14] st st8 := hG.tr hGst8 (by decide)
    have hf11 := hw
    refine lv_iconst (v := 1) hx hb dX3_takeBack_46 (by decide) ?_
    exact W.zret (v := 1) hx hb hr rfl (fun t ht hW => ⟨⟨1, (st8, sl9, so), rfl, ⟨hG, rfl, Or.inl ⟨rfl, back_ok (n := n2) (z := z1) (by omega) en2 ez1 c1 (by show st6 11 1 = _; rw [est6, up2_ne (r := 11) (k := 2) (a := 11) (j := 1) _ _ (by omega), est4, up2_same]) (by show st6 11 2 = _; rw [est6, up2_same, ez5]) (fun q9 a9 h9 => by rw [est6, up2_ne (r := 11) (k := 2) (a := 36 + 20 * q9) (j := 5 + a9) _ _ (by omega), est4, up2_ne (r := 11) (k := 1) (a := 36 + 20 * q9) (j := 5 + a9) _ _ (by omega)]) LGq.rf hf11 hGst8 (by decide)⟩⟩, xB.of ht hP⟩, hS.F ht⟩) hS.2.2 dX3_takeBack_47
  · refine lv_iconst (v := 0) hx hb dX3_takeBack_7 (by decide) ?_
    exact W.zret (v := 0) hx hb hr rfl (fun t ht hW => ⟨⟨0, (st, sl, so), rfl, ⟨hG, rfl, Or.inr ⟨rfl, NI.rf⟩⟩, xB.of ht hP⟩, hS.F ht⟩) hS.2.2 dX3_takeBack_8
set_option maxHeartbeats 4000000 in
set_option maxRecDepth 100000 in
theorem x_X3_forget (l : Launch) (dC : Nat → ClassId) (dI : Nat → Nat → Nat) (ad : Nat → Nat) (E : EP) (hEE : EC ad E) (A : Nat → Nat) (C : Nat → ClassId) (nb sz : Nat) (hN : XN A) (st : Nat → Nat → Int32) (sl : Nat → Nat → Int64) (so : Nat → XR) (hI : XI st) : Met l yX3_forget wsX3_forget ({ frames := 0, cells := 0, slots := 0, locals := 0 }) (va_Pc [.ref (A 11)] (xPre E dC dI A C nb sz st sl so)) (va_Qv (fun (x : XT) => XG [1, 2, 3, 4, 5, 6, 7, 8, 9, 10, 11, 12, 13, 14] st x.1 ∧ LGq sl x.2.1 ∧ x.2.2 = so ∧ (HC x.1 x.2.1)) (xB dC dI A C nb) (XA A sz)) 0 0 (XA A sz) := by
  refine Met.ofW (cc := cX3_forget) (maxL := 1) (ret := none) (by decide) rfl ?_
  intro p e s m args below meth c s₁ B hml hv
  obtain ⟨rfl, hsz, hP, hK, hE⟩ := hv
  have hx := B.exec
  have hb := B.bytes
  have hr := B.returns
  have hts := atoms_spec (ws := wsX3_forget) B.pre
  have hown : s.vm.findClass RX3 = some m.cls := findClass_of_methodNamed B.named
  subst hsz
  have hEv := hEE.1 _ _ _ hE
  have hS : va_S (XA A s.heap.size) s.heap s.heap [] := va_S.rf
  have hG : XG [1, 2, 3, 4, 5, 6, 7, 8, 9, 10, 11, 12, 13, 14] st st := XG.rf hI
  have hl := lv_entry ([.ref (A 11)]) (n := 1) (Nat.le_of_ble_eq_true rfl)
  rw [lg_entry_eq]
  generalize (lg_sl ([.ref (A 11)]) ++ List.replicate (1 - (lg_sl ([.ref (A 11)])).length) Slot.unset).toArray = ls at hl ⊢
  have hl : lv_has ls 1 [(0, .ref (A 11))] := hl
  have hL : LGq sl sl := LGq.rf
  refine lv_aload_n hx hb dX3_forget_0 rfl (lv_at hl 0 rfl) ?_
  refine lv_iconst (v := 0) hx hb dX3_forget_1 (by decide) ?_
  refine va_put (D := (dC, dI)) (ci := 4) (v := .int 0) (ty := .int) (C := RX3) (T := TX3) (N := 3) hx hb hts ii_X3_forget_X3 tyX3 tyX3_ok nmX3 hown hK hP (xD hN _ _ _ _ _ _) hS 11 (xw_is (r := 11) (by omega) (xc_fix (r := 11) (by omega))) rfl 2 (by decide) (hts _ mm_X3_forget_1) (fun _ hh => hh) rfl (by decide +kernel) rfl rfl (Nat.le_of_ble_eq_true rfl) dX3_forget_2 (fun H locs hP _ hS => ?_)
  have hP : va_P (dC, dI) vwCl (xw A C nb (up2 st 11 2 0) sl so) H := by rw [← xset (r := 11) (k := 2) (v := 0) (xc_fix (r := 11) (by omega))]; exact hP
  obtain ⟨st1, est1⟩ : ∃ y, y = up2 st 11 2 0 := ⟨_, rfl⟩
  have hG : XG [1, 2, 3, 4, 5, 6, 7, 8, 9, 10, 11, 12, 13, 14] st st1 := by rw [est1]; exact hG.up (xz (r := 11) (k := 2) (by decide : xrg 11 2 = 0)) (xpn (c := 15) (by decide : xcl 11 2 = 15) (by decide))
  rw [← est1] at hP
  obtain ⟨n2, hn2, en2⟩ := hG.1.at (r := 11) (k := 1) (b := 9) (by decide : xrg 11 1 = 9) (by decide)
  exact W.vret hx hb hr (fun t ht hW => ⟨⟨(st1, sl, so), rfl, ⟨hG, hL, rfl, forget_ok (n := n2) (by omega) (by show st1 11 1 = _; rw [en2]) (by show st1 11 2 = _; rw [est1, up2_same])⟩, xB.of ht hP⟩, hS.F ht⟩) hS.2.2 dX3_forget_5
set_option maxHeartbeats 4000000 in
set_option maxRecDepth 100000 in
theorem x_X9_sharedDivisor (l : Launch) (dC : Nat → ClassId) (dI : Nat → Nat → Nat) (ad : Nat → Nat) (E : EP) (hEE : EC ad E) (A : Nat → Nat) (C : Nat → ClassId) (nb sz : Nat) (hN : XN A) (st : Nat → Nat → Int32) (sl : Nat → Nat → Int64) (so : Nat → XR) (va : Int64) (vb : Int64) (hI : XI st) : Met l yX9_sharedDivisor wsX9_sharedDivisor ({ frames := 0, cells := 0, slots := 0, locals := 0 }) (va_Pc [.long va, .long vb] (xPre E dC dI A C nb sz st sl so)) (va_Ql (fun (r : Int64) (x : XT) => x = (st, sl, so) ∧ (True)) (xB dC dI A C nb) (XA A sz)) 0 0 (XA A sz) := by
  refine Met.ofW (cc := cX9_sharedDivisor) (maxL := 7) (ret := (some .long)) (by decide) rfl ?_
  intro p e s m args below meth c s₁ B hml hv
  obtain ⟨rfl, hsz, hP, hK, hE⟩ := hv
  have hx := B.exec
  have hb := B.bytes
  have hr := B.returns
  have hts := atoms_spec (ws := wsX9_sharedDivisor) B.pre
  have hown : s.vm.findClass RX9 = some m.cls := findClass_of_methodNamed B.named
  subst hsz
  have hEv := hEE.1 _ _ _ hE
  have hS : va_S (XA A s.heap.size) s.heap s.heap [] := va_S.rf
  have hG : XG [1, 2, 3, 4, 5, 6, 7, 8, 9, 10, 11, 12, 13, 14, 15] st st := XG.rf hI
  have hl := lv_entry ([.long va, .long vb]) (n := 7) (Nat.le_of_ble_eq_true rfl)
  rw [lg_entry_eq]
  generalize (lg_sl ([.long va, .long vb]) ++ List.replicate (7 - (lg_sl ([.long va, .long vb])).length) Slot.unset).toArray = ls at hl ⊢
  have hl : lv_has ls 7 [(0, .long va), (2, .long vb)] := hl
  refine lv_iconst (v := 0) hx hb dX9_sharedDivisor_0 (by decide) ?_
  refine lv_istore (lv' := [(4, .int 0), (0, .long va), (2, .long vb)]) hx hb dX9_sharedDivisor_1 hl (by decide) rfl (fun ls hl => ?_)
  refine zz_wf (fun n stk H locs ls => ∃ k1 : Nat, ∃ z2 : Int64, ∃ z3 : Int64, n = 201 - k1 ∧ 0 ≤ k1 ∧ k1 < 201 ∧ va_P (dC, dI) vwCl (xw A C nb st sl so) H ∧ va_S (XA A s.heap.size) s.heap H locs ∧ lv_has ls 7 [(4, .int (nI k1)), (0, .long z2), (2, .long z3)] ∧ stk = []) ?_ (201 - 0) _ _ _ _ ⟨0, va, vb, rfl, by omega, by omega, hP, hS, lv_sub hl [0, 1, 2] rfl, rfl⟩
  rintro nn stk H locs ls ⟨k1, z2, z3, hm5, hv4_0, hv5_1, hP, hS, hl, rfl⟩ ih6
  refine lv_iload hx hb dX9_sharedDivisor_3 (lv_at hl 0 rfl) ?_
  refine lv_sipush (v := 200) hx hb dX9_sharedDivisor_5 (by decide) ?_
  refine lv_icmp_ge (tgt := 33) hx hb dX9_sharedDivisor_8 (by decide) (fun c1 => ?_) (fun c1 => ?_)
  · have c1 : 200 ≤ k1 := (nI_leI (a := 200) (b := k1) (by omega) (by omega)).mp c1
    refine lv_lload_n hx hb dX9_sharedDivisor_33 rfl (lv_at hl 1 rfl) ?_
    exact W.lret (v := z2) hx hb hr (fun t ht hW => ⟨⟨z2, (st, sl, so), rfl, ⟨rfl, trivial⟩, xB.of ht hP⟩, hS.F ht⟩) hS.2.2 dX9_sharedDivisor_34
  · have c1 : ¬ 200 ≤ k1 := fun hh => c1 ((nI_leI (a := 200) (b := k1) (by omega) (by omega)).mpr hh)
    refine lv_lload_n hx hb dX9_sharedDivisor_11 rfl (lv_at hl 2 rfl) ?_
    refine lv_lconst (v := 0) hx hb dX9_sharedDivisor_12 (by decide) ?_
    refine W.lcmp hx hb dX9_sharedDivisor_13 ?_
    refine lv_topi (fun z7 ez7 => ?_)
    refine lv_if_eq (tgt := 33) hx hb dX9_sharedDivisor_14 (by decide) (fun c2 => ?_) (fun c2 => ?_)
    · refine lv_lload_n hx hb dX9_sharedDivisor_33 rfl (lv_at hl 1 rfl) ?_
      exact W.lret (v := z2) hx hb hr (fun t ht hW => ⟨⟨z2, (st, sl, so), rfl, ⟨rfl, trivial⟩, xB.of ht hP⟩, hS.F ht⟩) hS.2.2 dX9_sharedDivisor_34
    · refine lv_lload_n hx hb dX9_sharedDivisor_17 rfl (lv_at hl 1 rfl) ?_
      refine lv_lload_n hx hb dX9_sharedDivisor_18 rfl (lv_at hl 2 rfl) ?_
      refine lv_lrem hx hb dX9_sharedDivisor_19 (lcmp_ne ez7 c2) ?_
      refine lv_topl (fun z8 ez8 => ?_)
      clear ez8
      refine lv_lstore (lv' := [(5, .long z8), (4, .int (nI k1)), (0, .long z2), (2, .long z3)]) hx hb dX9_sharedDivisor_20 hl (by decide) rfl (fun ls hl => ?_)
      refine lv_lload_n hx hb dX9_sharedDivisor_22 rfl (lv_at hl 3 rfl) ?_
      refine lv_lstore_n (lv' := [(0, .long z3), (5, .long z8), (4, .int (nI k1)), (2, .long z3)]) hx hb dX9_sharedDivisor_23 rfl hl (by decide) rfl (fun ls hl => ?_)
      refine lv_lload hx hb dX9_sharedDivisor_24 (lv_at hl 1 rfl) ?_
      refine lv_lstore_n (lv' := [(2, .long z8), (0, .long z3), (5, .long z8), (4, .int (nI k1))]) hx hb dX9_sharedDivisor_26 rfl hl (by decide) rfl (fun ls hl => ?_)
      refine lv_iinc (v := (nI (k1 + 1))) (lv' := [(4, .int (nI (k1 + 1))), (2, .long z8), (0, .long z3), (5, .long z8)]) hx hb dX9_sharedDivisor_27 hl (k := 3) rfl (nI_add k1 1) (by decide) rfl (fun ls hl => ?_)
      refine lv_goto (tgt := 3) hx hb dX9_sharedDivisor_30 (by decide) ?_
      exact ih6 (201 - (k1 + 1)) _ _ _ _ (by omega) ⟨(k1 + 1), z3, z8, rfl, by omega, by omega, hP, hS, lv_sub hl [0, 2, 1] rfl, rfl⟩
set_option maxHeartbeats 4000000 in
set_option maxRecDepth 100000 in
theorem x_X11_closeTape (l : Launch) (dC : Nat → ClassId) (dI : Nat → Nat → Nat) (ad : Nat → Nat) (E : EP) (hEE : EC ad E) (A : Nat → Nat) (C : Nat → ClassId) (nb sz : Nat) (hN : XN A) (st : Nat → Nat → Int32) (sl : Nat → Nat → Int64) (so : Nat → XR) (hI : XI st) : Met l yX11_closeTape wsX11_closeTape ({ frames := 0, cells := 0, slots := 0, locals := 0 }) (va_Pc [.ref (A 0)] (xPre E dC dI A C nb sz st sl so)) (va_Qv (fun (x : XT) => XG [2, 3, 4, 5, 6, 7, 8, 9, 10, 11, 13, 14, 15] st x.1 ∧ LGq sl x.2.1 ∧ x.2.2 = so ∧ (x.1 1 1 = 0 ∧ x.1 0 16 = st 1 13)) (xB dC dI A C nb) (XA A sz)) 0 0 (XA A sz) := by
  refine Met.ofW (cc := cX11_closeTape) (maxL := 1) (ret := none) (by decide) rfl ?_
  intro p e s m args below meth c s₁ B hml hv
  obtain ⟨rfl, hsz, hP, hK, hE⟩ := hv
  have hx := B.exec
  have hb := B.bytes
  have hr := B.returns
  have hts := atoms_spec (ws := wsX11_closeTape) B.pre
  have hown : s.vm.findClass RX11 = some m.cls := findClass_of_methodNamed B.named
  subst hsz
  have hEv := hEE.1 _ _ _ hE
  have hS : va_S (XA A s.heap.size) s.heap s.heap [] := va_S.rf
  have hG : XG [2, 3, 4, 5, 6, 7, 8, 9, 10, 11, 13, 14, 15] st st := XG.rf hI
  have hl := lv_entry ([.ref (A 0)]) (n := 1) (Nat.le_of_ble_eq_true rfl)
  rw [lg_entry_eq]
  generalize (lg_sl ([.ref (A 0)]) ++ List.replicate (1 - (lg_sl ([.ref (A 0)])).length) Slot.unset).toArray = ls at hl ⊢
  have hl : lv_has ls 1 [(0, .ref (A 0))] := hl
  have hL : LGq sl sl := LGq.rf
  refine lv_aload_n hx hb dX11_closeTape_0 rfl (lv_at hl 0 rfl) ?_
  refine lv_aload_n hx hb dX11_closeTape_1 rfl (lv_at hl 0 rfl) ?_
  refine va_get (D := (dC, dI)) (ci := 10) (v := .ref (A 1)) (C := RX11) (T := TX11) (N := 19) hx hb hts ii_X11_closeTape_X11 hown hK hP 0 (xw_is (r := 0) (by omega) (xc_fix (r := 0) (by omega))) rfl 0 (by decide) (hts _ mm_X11_closeTape_1) (fun _ hh => hh) rfl dX11_closeTape_2 ?_
  refine va_getN (host := "OffTheLead") (D := (dC, dI)) (ci := 9) (v := .int (st 1 13)) (C := RX8) (T := TX8) (N := 15) hx hb hts ii_X11_closeTape_X8 hown hK hP 1 (xw_is (r := 1) (by omega) (xc_fix (r := 1) (by omega))) rfl 13 (by decide) (va_Nw.use rfl (nf_X11_380 hEv)) (fun _ hh => hh) rfl dX11_closeTape_5 ?_
  obtain ⟨z1, ez1⟩ : ∃ y : Int32, st 1 13 = y := ⟨_, rfl⟩
  refine zz_top (v := z1) (by exact ez1) ?_
  refine va_put (D := (dC, dI)) (ci := 10) (v := .int z1) (ty := .int) (C := RX11) (T := TX11) (N := 19) hx hb hts ii_X11_closeTape_X11 tyX11 tyX11_ok nmX11 hown hK hP (xD hN _ _ _ _ _ _) hS 0 (xw_is (r := 0) (by omega) (xc_fix (r := 0) (by omega))) rfl 16 (by decide) (hts _ mm_X11_closeTape_2) (fun _ hh => hh) rfl (by decide +kernel) rfl rfl (Nat.le_of_ble_eq_true rfl) dX11_closeTape_8 (fun H locs hP _ hS => ?_)
  have hP : va_P (dC, dI) vwCl (xw A C nb (up2 st 0 16 z1) sl so) H := by rw [← xset (r := 0) (k := 16) (v := z1) (xc_fix (r := 0) (by omega))]; exact hP
  obtain ⟨st2, est2⟩ : ∃ y, y = up2 st 0 16 z1 := ⟨_, rfl⟩
  have hG : XG [2, 3, 4, 5, 6, 7, 8, 9, 10, 11, 13, 14, 15] st st2 := by rw [est2]; exact hG.up (xz (r := 0) (k := 16) (by decide : xrg 0 16 = 0)) (xpn (c := 12) (by decide : xcl 0 16 = 12) (by decide))
  rw [← est2] at hP
  refine lv_aload_n hx hb dX11_closeTape_11 rfl (lv_at hl 0 rfl) ?_
  refine va_get (D := (dC, dI)) (ci := 10) (v := .ref (A 1)) (C := RX11) (T := TX11) (N := 19) hx hb hts ii_X11_closeTape_X11 hown hK hP 0 (xw_is (r := 0) (by omega) (xc_fix (r := 0) (by omega))) rfl 0 (by decide) (hts _ mm_X11_closeTape_1) (fun _ hh => hh) rfl dX11_closeTape_12 ?_
  refine lv_iconst (v := 0) hx hb dX11_closeTape_15 (by decide) ?_
  refine va_putN (host := "OffTheLead") (D := (dC, dI)) (ci := 9) (v := .int 0) (ty := .int) (C := RX8) (T := TX8) (N := 15) hx hb hts ii_X11_closeTape_X8 tyX8 tyX8_ok nmX8 hown hK hP (xD hN _ _ _ _ _ _) hS 1 (xw_is (r := 1) (by omega) (xc_fix (r := 1) (by omega))) rfl 1 (by decide) (va_Nw.use rfl (nf_X11_100 hEv)) (fun _ hh => hh) rfl (by decide +kernel) rfl rfl (Nat.le_of_ble_eq_true rfl) dX11_closeTape_16 (fun H locs hP _ hS => ?_)
  have hP : va_P (dC, dI) vwCl (xw A C nb (up2 st2 1 1 0) sl so) H := by rw [← xset (r := 1) (k := 1) (v := 0) (xc_fix (r := 1) (by omega))]; exact hP
  obtain ⟨st3, est3⟩ : ∃ y, y = up2 st2 1 1 0 := ⟨_, rfl⟩
  have hG : XG [2, 3, 4, 5, 6, 7, 8, 9, 10, 11, 13, 14, 15] st st3 := by rw [est3]; exact hG.up (xn (n := 0) (b := 941) (by decide : xrg 1 1 = 941) (by omega)) (xpn (c := 1) (by decide : xcl 1 1 = 1) (by decide))
  rw [← est3] at hP
  exact W.vret hx hb hr (fun t ht hW => ⟨⟨(st3, sl, so), rfl, ⟨hG, hL, rfl, ⟨by show st3 1 1 = 0; rw [est3, up2_same], by show st3 0 16 = st 1 13; rw [est3, up2_ne (r := 1) (k := 1) (a := 0) (j := 16) _ _ (by omega), est2, up2_same]; exact ez1.symm⟩⟩, xB.of ht hP⟩, hS.F ht⟩) hS.2.2 dX11_closeTape_19
set_option maxHeartbeats 4000000 in
set_option maxRecDepth 100000 in
theorem x_X11_keepIfDone (l : Launch) (dC : Nat → ClassId) (dI : Nat → Nat → Nat) (ad : Nat → Nat) (E : EP) (hEE : EC ad E) (A : Nat → Nat) (C : Nat → ClassId) (nb sz : Nat) (hN : XN A) (st : Nat → Nat → Int32) (sl : Nat → Nat → Int64) (so : Nat → XR) (va : Int32) (hI : XI st) : Met l yX11_keepIfDone wsX11_keepIfDone ({ frames := 2, cells := 0, slots := 0, locals := 41 }) (va_Pc [.ref (A 0), .int va] (xPre E dC dI A C nb sz st sl so)) (va_Qi (fun (r : Int32) (x : XT) => XG [1, 2, 3, 4, 5, 6, 7, 8, 9, 10, 11, 12, 13, 14] st x.1 ∧ LGq sl x.2.1 ∧ x.2.2 = so ∧ ((HC st sl → MKD st sl → HC x.1 x.2.1))) (xB dC dI A C nb) (XA A sz)) 0 0 (XA A sz) := by
  refine Met.ofW (cc := cX11_keepIfDone) (maxL := 2) (ret := (some .int)) (by decide) rfl ?_
  intro p e s m args below meth c s₁ B hml hv
  obtain ⟨rfl, hsz, hP, hK, hE⟩ := hv
  have hx := B.exec
  have hb := B.bytes
  have hr := B.returns
  have hts := atoms_spec (ws := wsX11_keepIfDone) B.pre
  have hown : s.vm.findClass RX11 = some m.cls := findClass_of_methodNamed B.named
  subst hsz
  have hEv := hEE.1 _ _ _ hE
  have hS : va_S (XA A s.heap.size) s.heap s.heap [] := va_S.rf
  have hG : XG [1, 2, 3, 4, 5, 6, 7, 8, 9, 10, 11, 12, 13, 14] st st := XG.rf hI
  have hl := lv_entry ([.ref (A 0), .int va]) (n := 2) (Nat.le_of_ble_eq_true rfl)
  rw [lg_entry_eq]
  generalize (lg_sl ([.ref (A 0), .int va]) ++ List.replicate (2 - (lg_sl ([.ref (A 0), .int va])).length) Slot.unset).toArray = ls at hl ⊢
  have hl : lv_has ls 2 [(0, .ref (A 0)), (1, .int va)] := hl
  have hL : LGq sl sl := LGq.rf
  refine lv_iload_n hx hb dX11_keepIfDone_0 rfl (lv_at hl 1 rfl) ?_
  refine lv_if_ne (tgt := 11) hx hb dX11_keepIfDone_1 (by decide) (fun c1 => ?_) (fun c1 => ?_)
  · refine lv_iload_n hx hb dX11_keepIfDone_11 rfl (lv_at hl 1 rfl) ?_
    exact W.iret (v := va) hx hb hr (fun t ht hW => ⟨⟨va, (st, sl, so), rfl, ⟨hG, hL, rfl, fun h9 _ => h9⟩, xB.of ht hP⟩, hS.F ht⟩) hS.2.2 dX11_keepIfDone_12
  · refine lv_aload_n hx hb dX11_keepIfDone_4 rfl (lv_at hl 0 rfl) ?_
    refine va_get (D := (dC, dI)) (ci := 10) (v := .ref (A 11)) (C := RX11) (T := TX11) (N := 19) hx hb hts ii_X11_keepIfDone_X11 hown hK hP 0 (xw_is (r := 0) (by omega) (xc_fix (r := 0) (by omega))) rfl 8 (by decide) (hts _ mm_X11_keepIfDone_1) (fun _ hh => hh) rfl dX11_keepIfDone_5 ?_
    refine va_callv (va_runV (As := []) (rest := []) ⟨hx, hb, hml, hown, hts⟩ (x_X3_keepMarked l dC dI ad E hEE A C nb _ hN st sl so  hG.1) (cwV 0 hts gX11_keepIfDone_X3_keepMarked rfl rfl rfl (by decide +kernel) ⟨Nat.le_of_ble_eq_true rfl, Nat.le_of_ble_eq_true rfl⟩) ⟨fun a U g mk q => ⟨q.1, xPre.blind hEE q.2⟩, va_recv hK hP (ci := 4) (q0 := 11) rfl (xw_is (r := 11) (by omega) (xc_fix (r := 11) (by omega))), fun U hU hW => ⟨rfl, xPre.of hEE hP hK hE hS hU hW⟩⟩ rfl rfl hl.1 rfl (lv_room (Nat.le_of_ble_eq_true rfl)) dX11_keepIfDone_8 ⟨Nat.le_of_ble_eq_true rfl, Nat.le_of_ble_eq_true rfl⟩) hS (fun q _ h => XA.le hS.1 q h) (XA.le hS.1) (fun x t H locs ht hvm hw hB _ _ hS => ?_)
    have hP := xB.at ht hB
    clear hB ht hvm
    obtain ⟨st2, sl3, so4⟩ := x
    obtain ⟨hGst2, hLGst2, hOst2, hw⟩ := hw
    dsimp only at hGst2 hLGst2 hOst2 hw
    have hL : LGq sl sl3 := hL.tr hLGst2
    replace hOst2 := hOst2.symm
    subst hOst2
    have hP : va_P (dC, dI) vwCl (xw A C nb st2 sl3 so) _ := hP
    have hG : XG [1, 2, 3, 4, 5, 6, 7, 8, 9, 10, 11, 12, 13, 14] st st2 := hG.tr hGst2 (by decide)
    have hf5 := hw
    refine lv_iload_n hx hb dX11_keepIfDone_11 rfl (lv_at hl 1 rfl) ?_
    exact W.iret (v := va) hx hb hr (fun t ht hW => ⟨⟨va, (st2, sl3, so), rfl, ⟨hG, hL, rfl, hf5⟩, xB.of ht hP⟩, hS.F ht⟩) hS.2.2 dX11_keepIfDone_12
set_option maxHeartbeats 4000000 in
set_option maxRecDepth 100000 in
theorem x_X11_areHours (l : Launch) (dC : Nat → ClassId) (dI : Nat → Nat → Nat) (ad : Nat → Nat) (E : EP) (hEE : EC ad E) (A : Nat → Nat) (C : Nat → ClassId) (nb sz : Nat) (hN : XN A) (st : Nat → Nat → Int32) (sl : Nat → Nat → Int64) (so : Nat → XR) (va : Int32) (vb : Int32) (hI : XI st) : Met l yX11_areHours wsX11_areHours ({ frames := 0, cells := 0, slots := 0, locals := 0 }) (va_Pc [.int va, .int vb] (xPre E dC dI A C nb sz st sl so)) (va_Qi (fun (r : Int32) (x : XT) => x = (st, sl, so) ∧ ((r = 1) ∨ (r = 0))) (xB dC dI A C nb) (XA A sz)) 0 0 (XA A sz) := by
  refine Met.ofW (cc := cX11_areHours) (maxL := 2) (ret := (some .boolean)) (by decide) rfl ?_
  intro p e s m args below meth c s₁ B hml hv
  obtain ⟨rfl, hsz, hP, hK, hE⟩ := hv
  have hx := B.exec
  have hb := B.bytes
  have hr := B.returns
  have hts := atoms_spec (ws := wsX11_areHours) B.pre
  have hown : s.vm.findClass RX11 = some m.cls := findClass_of_methodNamed B.named
  subst hsz
  have hEv := hEE.1 _ _ _ hE
  have hS : va_S (XA A s.heap.size) s.heap s.heap [] := va_S.rf
  have hG : XG [1, 2, 3, 4, 5, 6, 7, 8, 9, 10, 11, 12, 13, 14, 15] st st := XG.rf hI
  have hl := lv_entry ([.int va, .int vb]) (n := 2) (Nat.le_of_ble_eq_true rfl)
  rw [lg_entry_eq]
  generalize (lg_sl ([.int va, .int vb]) ++ List.replicate (2 - (lg_sl ([.int va, .int vb])).length) Slot.unset).toArray = ls at hl ⊢
  have hl : lv_has ls 2 [(0, .int va), (1, .int vb)] := hl
  refine lv_iload_n hx hb dX11_areHours_0 rfl (lv_at hl 0 rfl) ?_
  refine lv_if_lt (tgt := 19) hx hb dX11_areHours_1 (by decide) (fun c1 => ?_) (fun c1 => ?_)
  · refine lv_iconst (v := 0) hx hb dX11_areHours_19 (by decide) ?_
    exact W.zret (v := 0) hx hb hr rfl (fun t ht hW => ⟨⟨0, (st, sl, so), rfl, ⟨rfl, Or.inr (rfl)⟩, xB.of ht hP⟩, hS.F ht⟩) hS.2.2 dX11_areHours_20
  · refine lv_iload_n hx hb dX11_areHours_4 rfl (lv_at hl 0 rfl) ?_
    refine lv_iload_n hx hb dX11_areHours_5 rfl (lv_at hl 1 rfl) ?_
    refine lv_icmp_gt (tgt := 19) hx hb dX11_areHours_6 (by decide) (fun c2 => ?_) (fun c2 => ?_)
    · refine lv_iconst (v := 0) hx hb dX11_areHours_19 (by decide) ?_
      exact W.zret (v := 0) hx hb hr rfl (fun t ht hW => ⟨⟨0, (st, sl, so), rfl, ⟨rfl, Or.inr (rfl)⟩, xB.of ht hP⟩, hS.F ht⟩) hS.2.2 dX11_areHours_20
    · refine lv_iload_n hx hb dX11_areHours_9 rfl (lv_at hl 1 rfl) ?_
      refine lv_bipush (v := 24) hx hb dX11_areHours_10 (by decide) ?_
      refine lv_icmp_ge (tgt := 19) hx hb dX11_areHours_12 (by decide) (fun c3 => ?_) (fun c3 => ?_)
      · refine lv_iconst (v := 0) hx hb dX11_areHours_19 (by decide) ?_
        exact W.zret (v := 0) hx hb hr rfl (fun t ht hW => ⟨⟨0, (st, sl, so), rfl, ⟨rfl, Or.inr (rfl)⟩, xB.of ht hP⟩, hS.F ht⟩) hS.2.2 dX11_areHours_20
      · refine lv_iconst (v := 1) hx hb dX11_areHours_15 (by decide) ?_
        refine lv_goto (tgt := 20) hx hb dX11_areHours_16 (by decide) ?_
        exact W.zret (v := 1) hx hb hr rfl (fun t ht hW => ⟨⟨1, (st, sl, so), rfl, ⟨rfl, Or.inl (rfl)⟩, xB.of ht hP⟩, hS.F ht⟩) hS.2.2 dX11_areHours_20
set_option maxHeartbeats 4000000 in
set_option maxRecDepth 100000 in
theorem x_clear0b (l : Launch) (dC : Nat → ClassId) (dI : Nat → Nat → Nat) (ad : Nat → Nat) (E : EP) (hEE : EC ad E) (A : Nat → Nat) (C : Nat → ClassId) (nb sz : Nat) (hN : XN A) (st : Nat → Nat → Int32) (sl : Nat → Nat → Int64) (so : Nat → XR) (hI : XI st) : Met l yX7_clear wsX7_clear ({ frames := 0, cells := 0, slots := 0, locals := 0 }) (va_Pc [.ref (A (20 + 4 * 0))] (xPre E dC dI A C nb sz st sl so)) (va_Qv (fun (x : XT) => XG [1, 2, 3, 4, 6, 7, 8, 9, 10, 11, 12, 13, 14, 15] st x.1 ∧ LGq sl x.2.1 ∧ x.2.2 = so ∧ (x.1 (20 + 4 * 0) 3 = 0 ∧ (∀ q, q < 4 → ¬ q = 0 → SKs ad st so q → SKs ad x.1 so q))) (xB dC dI A C nb) (XA A sz)) 0 0 (XA A sz) := by
  refine Met.ofW (cc := cX7_clear) (maxL := 1) (ret := none) (by decide) rfl ?_
  intro p e s m args below meth c s₁ B hml hv
  obtain ⟨rfl, hsz, hP, hK, hE⟩ := hv
  have hx := B.exec
  have hb := B.bytes
  have hr := B.returns
  have hts := atoms_spec (ws := wsX7_clear) B.pre
  have hown : s.vm.findClass RX7 = some m.cls := findClass_of_methodNamed B.named
  subst hsz
  have hEv := hEE.1 _ _ _ hE
  have hS : va_S (XA A s.heap.size) s.heap s.heap [] := va_S.rf
  have hG : XG [1, 2, 3, 4, 6, 7, 8, 9, 10, 11, 12, 13, 14, 15] st st := XG.rf hI
  have hl := lv_entry ([.ref (A (20 + 4 * 0))]) (n := 1) (Nat.le_of_ble_eq_true rfl)
  rw [lg_entry_eq]
  generalize (lg_sl ([.ref (A (20 + 4 * 0))]) ++ List.replicate (1 - (lg_sl ([.ref (A (20 + 4 * 0))])).length) Slot.unset).toArray = ls at hl ⊢
  have hl : lv_has ls 1 [(0, .ref (A (20 + 4 * 0)))] := hl
  have hL : LGq sl sl := LGq.rf
  refine lv_aload_n hx hb dX7_clear_0 rfl (lv_at hl 0 rfl) ?_
  refine lv_iconst (v := 0) hx hb dX7_clear_1 (by decide) ?_
  refine va_put (D := (dC, dI)) (ci := 8) (v := .int 0) (ty := .int) (C := RX7) (T := TX7) (N := 5) hx hb hts ii_X7_clear_X7 tyX7 tyX7_ok nmX7 hown hK hP (xD hN _ _ _ _ _ _) hS (20 + 4 * 0) (xw_is (r := (20 + 4 * 0)) (by omega) (xc_sn (q := 0) (o := 0) (by omega) (by omega))) rfl 3 (by decide) (hts _ mm_X7_clear_1) (fun _ hh => hh) rfl (by decide +kernel) rfl rfl (Nat.le_of_ble_eq_true rfl) dX7_clear_2 (fun H locs hP _ hS => ?_)
  have hP : va_P (dC, dI) vwCl (xw A C nb (up2 st (20 + 4 * 0) 3 0) sl so) H := by rw [← xset (r := (20 + 4 * 0)) (k := 3) (v := 0) (xc_sn (q := 0) (o := 0) (by omega) (by omega))]; exact hP
  obtain ⟨st1, est1⟩ : ∃ y, y = up2 st (20 + 4 * 0) 3 0 := ⟨_, rfl⟩
  have hG : XG [1, 2, 3, 4, 6, 7, 8, 9, 10, 11, 12, 13, 14, 15] st st1 := by rw [est1]; exact hG.up (xn (n := 0) (b := 41) ((xrg_sn (q := 0) (o := 0) (by omega) (by omega)).trans (by first | rfl | decide)) (by omega)) (xpn (c := 5) ((xcl_sn (q := 0) (o := 0) (k := 3) (by omega) (by omega)).trans (by first | rfl | decide)) (by decide))
  rw [← est1] at hP
  refine lv_aload_n hx hb dX7_clear_5 rfl (lv_at hl 0 rfl) ?_
  refine lv_iconst (v := 0) hx hb dX7_clear_6 (by decide) ?_
  refine va_put (D := (dC, dI)) (ci := 8) (v := .int 0) (ty := .int) (C := RX7) (T := TX7) (N := 5) hx hb hts ii_X7_clear_X7 tyX7 tyX7_ok nmX7 hown hK hP (xD hN _ _ _ _ _ _) hS (20 + 4 * 0) (xw_is (r := (20 + 4 * 0)) (by omega) (xc_sn (q := 0) (o := 0) (by omega) (by omega))) rfl 4 (by decide) (hts _ mm_X7_clear_2) (fun _ hh => hh) rfl (by decide +kernel) rfl rfl (Nat.le_of_ble_eq_true rfl) dX7_clear_7 (fun H locs hP _ hS => ?_)
  have hP : va_P (dC, dI) vwCl (xw A C nb (up2 st1 (20 + 4 * 0) 4 0) sl so) H := by rw [← xset (r := (20 + 4 * 0)) (k := 4) (v := 0) (xc_sn (q := 0) (o := 0) (by omega) (by omega))]; exact hP
  obtain ⟨st2, est2⟩ : ∃ y, y = up2 st1 (20 + 4 * 0) 4 0 := ⟨_, rfl⟩
  have hG : XG [1, 2, 3, 4, 6, 7, 8, 9, 10, 11, 12, 13, 14, 15] st st2 := by rw [est2]; exact hG.up (xz (r := (20 + 4 * 0)) (k := 4) ((xrg_sn (q := 0) (o := 0) (by omega) (by omega)).trans (by first | rfl | decide))) (xpn (c := 0) ((xcl_sn (q := 0) (o := 0) (k := 4) (by omega) (by omega)).trans (by first | rfl | decide)) (by decide))
  rw [← est2] at hP
  exact W.vret hx hb hr (fun t ht hW => ⟨⟨(st2, sl, so), rfl, ⟨hG, hL, rfl, ⟨by show st2 (20 + 4 * 0) 3 = 0; rw [est2, up2_ne (r := (20 + 4 * 0)) (k := 4) (a := (20 + 4 * 0)) (j := 3) _ _ (by omega), est1, up2_same], fun q9 h8 h9 hh => SKs.rows (p := 0) (fun r9 hr => by show st2 r9 = st r9; rw [est2, up2_o r9 (by omega), est1, up2_o r9 (by omega)]) (fun r9 hr => rfl) h9 hh⟩⟩, xB.of ht hP⟩, hS.F ht⟩) hS.2.2 dX7_clear_10
