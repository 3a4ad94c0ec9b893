set_option maxHeartbeats 4000000 in
set_option maxRecDepth 100000 in
theorem x_takeNamed0 (l : Launch) (dC : Nat → ClassId) (dI : Nat → Nat → Nat) (ad : Nat → Nat) (E : EP) (hEE : EC ad E) (A : Nat → Nat) (C : Nat → ClassId) (nb sz : Nat) (hN : XN A) (st : Nat → Nat → Int32) (sl : Nat → Nat → Int64) (so : Nat → XR) (i : Nat) (hi : i < 13) (hI : XI st) (hOI : OI ad so) : Met l yX8_takeNamed wsX8_takeNamed ({ frames := 6, cells := 0, slots := 0, locals := 130 }) (va_Pc [.ref (A 1), .ref (A (36 + 20 * i)), .int 0] (xPre E dC dI A C nb sz st sl so)) (va_Qi (fun (r : Int32) (x : XT) => XG [1, 2, 3, 4, 5, 6, 7, 8, 9, 12, 13, 14, 15] st x.1 ∧ LGq sl x.2.1 ∧ OG ad [2, 3, 4] so x.2.2 ∧ ((∃ n : Nat, r = 1 ∧ x.1 1 9 = nI n ∧ n < 5) ∨ (r = 0 ∧ ¬ x.1 1 13 = 0))) (xB dC dI A C nb) (XA A sz)) 0 0 (XA A sz) := by
  refine Met.ofW (cc := cX8_takeNamed) (maxL := 3) (ret := (some .boolean)) (by decide) rfl ?_
  intro p e s m args below meth c s₁ B hml hv
  obtain ⟨rfl, hsz, hP, hK, hE⟩ := hv
  have hx := B.exec
  have hb := B.bytes
  have hr := B.returns
  have hts := atoms_spec (ws := wsX8_takeNamed) B.pre
  have hown : s.vm.findClass RX8 = some m.cls := findClass_of_methodNamed B.named
  subst hsz
  have hEv := hEE.1 _ _ _ hE
  have hS : va_S (XA A s.heap.size) s.heap s.heap [] := va_S.rf
  have hG : XG [1, 2, 3, 4, 5, 6, 7, 8, 9, 12, 13, 14, 15] st st := XG.rf hI
  have hO : OG ad [2, 3, 4] so so := OG.rf hOI
  have hl := lv_entry ([.ref (A 1), .ref (A (36 + 20 * i)), .int 0]) (n := 3) (Nat.le_of_ble_eq_true rfl)
  rw [lg_entry_eq]
  generalize (lg_sl ([.ref (A 1), .ref (A (36 + 20 * i)), .int 0]) ++ List.replicate (3 - (lg_sl ([.ref (A 1), .ref (A (36 + 20 * i)), .int 0])).length) Slot.unset).toArray = ls at hl ⊢
  have hl : lv_has ls 3 [(0, .ref (A 1)), (1, .ref (A (36 + 20 * i))), (2, .int 0)] := hl
  have hL : LGq sl sl := LGq.rf
  refine lv_aload_n hx hb dX8_takeNamed_0 rfl (lv_at hl 0 rfl) ?_
  refine va_get (D := (dC, dI)) (ci := 9) (v := va_rf (so 1 7)) (C := RX8) (T := TX8) (N := 15) hx hb hts ii_X8_takeNamed_X8 hown hK hP 1 (xw_is (r := 1) (by omega) (xc_fix (r := 1) (by omega))) rfl 7 (by decide) (hts _ mm_X8_takeNamed_1) (fun _ hh => hh) rfl dX8_takeNamed_1 ?_
  obtain ⟨j1, hj1, ej1⟩ := hO.1.2
  refine zz_topq (r := some (ad j1)) (by rw [ej1]) ?_
  refine va_gets (v := .ref (ad 24)) hx hb (EV.word hEv (i := 24) (by decide)) hS hown (hts _ mm_X8_takeNamed_2) (fun _ hh => hh) dX8_takeNamed_4 ?_
  refine lv_acmp_eq (rx := (some (ad j1))) (ry := (some (ad 24))) (tgt := 16) hx hb dX8_takeNamed_7 (by decide) (fun c1 => ?_) (fun c1 => ?_)
  · have c1 : j1 = 24 := (EV.eqw hEv (i := j1) (j := 24) (by omega) (by omega)).mp c1
    refine lv_aload_n hx hb dX8_takeNamed_16 rfl (lv_at hl 0 rfl) ?_
    refine lv_aload_n hx hb dX8_takeNamed_17 rfl (lv_at hl 1 rfl) ?_
    refine lv_iload_n hx hb dX8_takeNamed_18 rfl (lv_at hl 2 rfl) ?_
    refine lv_aload_n hx hb dX8_takeNamed_19 rfl (lv_at hl 0 rfl) ?_
    refine va_get (D := (dC, dI)) (ci := 9) (v := .long (sl 1 8)) (C := RX8) (T := TX8) (N := 15) hx hb hts ii_X8_takeNamed_X8 hown hK hP 1 (xw_is (r := 1) (by omega) (xc_fix (r := 1) (by omega))) rfl 8 (by decide) (hts _ mm_X8_takeNamed_3) (fun _ hh => hh) rfl dX8_takeNamed_20 ?_
    refine lv_topl (fun z2 ez2 => ?_)
    clear ez2
    refine va_calli (va_runV (As := [.int 0, .long z2]) (rest := [.ref (A 1)]) ⟨hx, hb, hml, hown, hts⟩ (x_numberOf0 l dC dI ad E hEE A C nb _ hN st sl so i z2 (by omega) hG.1) (cwV 2 hts gX8_takeNamed_X4_numberOf rfl rfl rfl (by decide +kernel) ⟨Nat.le_of_ble_eq_true rfl, Nat.le_of_ble_eq_true rfl⟩) ⟨fun a U g mk q => ⟨q.1, xPre.blind hEE q.2⟩, va_recv hK hP (ci := 5) (q0 := (36 + 20 * i)) rfl (xw_is (r := (36 + 20 * i)) (by omega) (xc_pk (i := i) (o := 0) (by omega) (by omega))), fun U hU hW => ⟨rfl, xPre.of hEE hP hK hE hS hU hW⟩⟩ rfl rfl hl.1 rfl (lv_room (Nat.le_of_ble_eq_true rfl)) dX8_takeNamed_23 ⟨Nat.le_of_ble_eq_true rfl, Nat.le_of_ble_eq_true rfl⟩) hS (fun q _ h => XA.le hS.1 q h) (XA.le hS.1) (fun r3 x t H locs ht hvm hw hB _ _ hS => ?_)
    have hP := xB.at ht hB
    clear hB ht hvm
    obtain ⟨rfl, hw⟩ := hw
    have hP : va_P (dC, dI) vwCl (xw A C nb st sl so) _ := hP
    rcases hw with rfl | ⟨n4, rfl, hf5⟩
    · refine va_put (D := (dC, dI)) (ci := 9) (v := .int (-1)) (ty := .int) (C := RX8) (T := TX8) (N := 15) hx hb hts ii_X8_takeNamed_X8 tyX8 tyX8_ok nmX8 hown hK hP (xD hN _ _ _ _ _ _) hS 1 (xw_is (r := 1) (by omega) (xc_fix (r := 1) (by omega))) rfl 9 (by decide) (hts _ mm_X8_takeNamed_4) (fun _ hh => hh) rfl (by decide +kernel) rfl rfl (Nat.le_of_ble_eq_true rfl) dX8_takeNamed_26 (fun H locs hP _ hS => ?_)
      have hP : va_P (dC, dI) vwCl (xw A C nb (up2 st 1 9 (-1)) sl so) H := by rw [← xset (r := 1) (k := 9) (v := (-1)) (xc_fix (r := 1) (by omega))]; exact hP
      obtain ⟨st6, est6⟩ : ∃ y, y = up2 st 1 9 (-1) := ⟨_, rfl⟩
      have hG : XG [1, 2, 3, 4, 5, 6, 7, 8, 9, 12, 13, 14, 15] st st6 := by rw [est6]; exact hG.up (xz (r := 1) (k := 9) (by decide : xrg 1 9 = 0)) (xpn (c := 11) (by decide : xcl 1 9 = 11) (by decide))
      rw [← est6] at hP
      refine lv_aload_n hx hb dX8_takeNamed_29 rfl (lv_at hl 0 rfl) ?_
      refine va_get (D := (dC, dI)) (ci := 9) (v := .int (st6 1 9)) (C := RX8) (T := TX8) (N := 15) hx hb hts ii_X8_takeNamed_X8 hown hK hP 1 (xw_is (r := 1) (by omega) (xc_fix (r := 1) (by omega))) rfl 9 (by decide) (hts _ mm_X8_takeNamed_4) (fun _ hh => hh) rfl dX8_takeNamed_30 ?_
      refine zz_top (v := (-1)) (by show st6 1 9 = _; rw [est6, up2_same]) ?_
      refine lv_iconst (v := (-1)) hx hb dX8_takeNamed_33 (by decide) ?_
      refine lv_icmp_ne (tgt := 43) hx hb dX8_takeNamed_34 (by decide) (fun cc => absurd (by decide) cc) (fun _ => ?_)
      refine lv_aload_n hx hb dX8_takeNamed_37 rfl (lv_at hl 0 rfl) ?_
      refine lv_iconst (v := 3) hx hb dX8_takeNamed_38 (by decide) ?_
      refine va_calli (va_runV (As := [.int 3]) (rest := []) ⟨hx, hb, hml, hown, hts⟩ (x_X8_refuse l dC dI ad E hEE A C nb _ hN st6 sl so 3  hG.1) (cwV 1 hts gX8_takeNamed_X8_refuse rfl rfl rfl (by decide +kernel) ⟨Nat.le_of_ble_eq_true rfl, Nat.le_of_ble_eq_true rfl⟩) ⟨fun a U g mk q => ⟨q.1, xPre.blind hEE q.2⟩, va_recv hK hP (ci := 9) (q0 := 1) rfl (xw_is (r := 1) (by omega) (xc_fix (r := 1) (by omega))), fun U hU hW => ⟨rfl, xPre.of hEE hP hK hE hS hU hW⟩⟩ rfl rfl hl.1 rfl (lv_room (Nat.le_of_ble_eq_true rfl)) dX8_takeNamed_39 ⟨Nat.le_of_ble_eq_true rfl, Nat.le_of_ble_eq_true rfl⟩) hS (fun q _ h => XA.le hS.1 q h) (XA.le hS.1) (fun r7 x t H locs ht hvm hw hB _ _ hS => ?_)
      have hP := xB.at ht hB
      clear hB ht hvm
      obtain ⟨st8, sl9, so10⟩ := x
      obtain ⟨hGst8, hLGst8, hOst8, hw⟩ := hw
      dsimp only at hGst8 hLGst8 hOst8 hw
      have hL : LGq sl sl9 := hL.tr hLGst8
      replace hOst8 := hOst8.symm
      subst hOst8
      have hP : va_P (dC, dI) vwCl (xw A C nb st8 sl9 so) _ := hP
      have hG : XG [1, 2, 3, 4, 5, 6, 7, 8, 9, 12, 13, 14, 15] st st8 := hG.tr hGst8 (by decide)
      obtain ⟨rfl, hf11⟩ := hw
      exact W.zret (v := 0) hx hb hr rfl (fun t ht hW => ⟨⟨0, (st8, sl9, so), rfl, ⟨hG, hL, hO, Or.inr (⟨rfl, by show ¬ st8 1 13 = 0; rw [hf11]; decide⟩)⟩, xB.of ht hP⟩, hS.F ht⟩) hS.2.2 dX8_takeNamed_42
    · refine va_put (D := (dC, dI)) (ci := 9) (v := .int (nI n4)) (ty := .int) (C := RX8) (T := TX8) (N := 15) hx hb hts ii_X8_takeNamed_X8 tyX8 tyX8_ok nmX8 hown hK hP (xD hN _ _ _ _ _ _) hS 1 (xw_is (r := 1) (by omega) (xc_fix (r := 1) (by omega))) rfl 9 (by decide) (hts _ mm_X8_takeNamed_4) (fun _ hh => hh) rfl (by decide +kernel) rfl rfl (Nat.le_of_ble_eq_true rfl) dX8_takeNamed_26 (fun H locs hP _ hS => ?_)
      have hP : va_P (dC, dI) vwCl (xw A C nb (up2 st 1 9 (nI n4)) sl so) H := by rw [← xset (r := 1) (k := 9) (v := (nI n4)) (xc_fix (r := 1) (by omega))]; exact hP
      obtain ⟨st12, est12⟩ : ∃ y, y = up2 st 1 9 (nI n4) := ⟨_, rfl⟩
      have hG : XG [1, 2, 3, 4, 5, 6, 7, 8, 9, 12, 13, 14, 15] st st12 := by rw [est12]; exact hG.up (xz (r := 1) (k := 9) (by decide : xrg 1 9 = 0)) (xpn (c := 11) (by decide : xcl 1 9 = 11) (by decide))
      rw [← est12] at hP
      refine lv_aload_n hx hb dX8_takeNamed_29 rfl (lv_at hl 0 rfl) ?_
      refine va_get (D := (dC, dI)) (ci := 9) (v := .int (st12 1 9)) (C := RX8) (T := TX8) (N := 15) hx hb hts ii_X8_takeNamed_X8 hown hK hP 1 (xw_is (r := 1) (by omega) (xc_fix (r := 1) (by omega))) rfl 9 (by decide) (hts _ mm_X8_takeNamed_4) (fun _ hh => hh) rfl dX8_takeNamed_30 ?_
      refine zz_top (v := (nI n4)) (by show st12 1 9 = _; rw [est12, up2_same]) ?_
      refine lv_iconst (v := (-1)) hx hb dX8_takeNamed_33 (by decide) ?_
      refine lv_icmp_ne (tgt := 43) hx hb dX8_takeNamed_34 (by decide) (fun _ => ?_) (fun cc => absurd cc (nI_nem (by omega)))
      refine lv_aload_n hx hb dX8_takeNamed_43 rfl (lv_at hl 0 rfl) ?_
      refine va_callv (va_runV (As := []) (rest := []) ⟨hx, hb, hml, hown, hts⟩ (x_X8_step l dC dI ad E hEE A C nb _ hN st12 sl so  hG.1 hO.1) (cwV 0 hts gX8_takeNamed_X8_step rfl rfl rfl (by decide +kernel) ⟨Nat.le_of_ble_eq_true rfl, Nat.le_of_ble_eq_true rfl⟩) ⟨fun a U g mk q => ⟨q.1, xPre.blind hEE q.2⟩, va_recv hK hP (ci := 9) (q0 := 1) rfl (xw_is (r := 1) (by omega) (xc_fix (r := 1) (by omega))), fun U hU hW => ⟨rfl, xPre.of hEE hP hK hE hS hU hW⟩⟩ rfl rfl hl.1 rfl (lv_room (Nat.le_of_ble_eq_true rfl)) dX8_takeNamed_44 ⟨Nat.le_of_ble_eq_true rfl, Nat.le_of_ble_eq_true rfl⟩) hS (fun q _ h => XA.le hS.1 q h) (XA.le hS.1) (fun x t H locs ht hvm hw hB _ _ hS => ?_)
      have hP := xB.at ht hB
      clear hB ht hvm
      obtain ⟨st14, sl15, so16⟩ := x
      obtain ⟨hGst14, hLGst14, hOst14, hw⟩ := hw
      dsimp only at hGst14 hLGst14 hOst14 hw
      have hL : LGq sl sl15 := hL.tr hLGst14
      have hO : OG ad [2, 3, 4] so so16 := hO.tr hOst14 (by decide)
      have hP : va_P (dC, dI) vwCl (xw A C nb st14 sl15 so16) _ := hP
      have hG : XG [1, 2, 3, 4, 5, 6, 7, 8, 9, 12, 13, 14, 15] st st14 := hG.tr hGst14 (by decide)
      clear hw
      refine lv_iconst (v := 1) hx hb dX8_takeNamed_47 (by decide) ?_
      exact W.zret (v := 1) hx hb hr rfl (fun t ht hW => ⟨⟨1, (st14, sl15, so16), rfl, ⟨hG, hL, hO, Or.inl (⟨n4, rfl, by show st14 1 9 = _; rw [hGst14.2 1 9 (by rw [(by decide : xcl 1 9 = 11)]; decide), est12, up2_same], by omega⟩)⟩, xB.of ht hP⟩, hS.F ht⟩) hS.2.2 dX8_takeNamed_48
  · have c1 : ¬ j1 = 24 := fun hh => c1 ((EV.eqw hEv (i := j1) (j := 24) (by omega) (by omega)).mpr hh)
    refine lv_aload_n hx hb dX8_takeNamed_10 rfl (lv_at hl 0 rfl) ?_
    refine lv_iconst (v := 1) hx hb dX8_takeNamed_11 (by decide) ?_
    refine va_calli (va_runV (As := [.int 1]) (rest := []) ⟨hx, hb, hml, hown, hts⟩ (x_X8_refuse l dC dI ad E hEE A C nb _ hN st sl so 1  hG.1) (cwV 1 hts gX8_takeNamed_X8_refuse rfl rfl rfl (by decide +kernel) ⟨Nat.le_of_ble_eq_true rfl, Nat.le_of_ble_eq_true rfl⟩) ⟨fun a U g mk q => ⟨q.1, xPre.blind hEE q.2⟩, va_recv hK hP (ci := 9) (q0 := 1) rfl (xw_is (r := 1) (by omega) (xc_fix (r := 1) (by omega))), fun U hU hW => ⟨rfl, xPre.of hEE hP hK hE hS hU hW⟩⟩ rfl rfl hl.1 rfl (lv_room (Nat.le_of_ble_eq_true rfl)) dX8_takeNamed_12 ⟨Nat.le_of_ble_eq_true rfl, Nat.le_of_ble_eq_true rfl⟩) hS (fun q _ h => XA.le hS.1 q h) (XA.le hS.1) (fun r17 x t H locs ht hvm hw hB _ _ hS => ?_)
    have hP := xB.at ht hB
    clear hB ht hvm
    obtain ⟨st18, sl19, so20⟩ := x
    obtain ⟨hGst18, hLGst18, hOst18, hw⟩ := hw
    dsimp only at hGst18 hLGst18 hOst18 hw
    have hL : LGq sl sl19 := hL.tr hLGst18
    replace hOst18 := hOst18.symm
    subst hOst18
    have hP : va_P (dC, dI) vwCl (xw A C nb st18 sl19 so) _ := hP
    have hG : XG [1, 2, 3, 4, 5, 6, 7, 8, 9, 12, 13, 14, 15] st st18 := hG.tr hGst18 (by decide)
    obtain ⟨rfl, hf21⟩ := hw
    exact W.zret (v := 0) hx hb hr rfl (fun t ht hW => ⟨⟨0, (st18, sl19, so), rfl, ⟨hG, hL, hO, Or.inr (⟨rfl, by show ¬ st18 1 13 = 0; rw [hf21]; decide⟩)⟩, xB.of ht hP⟩, hS.F ht⟩) hS.2.2 dX8_takeNamed_15
set_option maxHeartbeats 4000000 in
set_option maxRecDepth 100000 in
theorem x_takeNamed1 (l : Launch) (dC : Nat → ClassId) (dI : Nat → Nat → Nat) (ad : Nat → Nat) (E : EP) (hEE : EC ad E) (A : Nat → Nat) (C : Nat → ClassId) (nb sz : Nat) (hN : XN A) (st : Nat → Nat → Int32) (sl : Nat → Nat → Int64) (so : Nat → XR) (i : Nat) (hi : i < 13) (hI : XI st) (hOI : OI ad so) : Met l yX8_takeNamed wsX8_takeNamed ({ frames := 6, cells := 0, slots := 0, locals := 130 }) (va_Pc [.ref (A 1), .ref (A (36 + 20 * i)), .int 1] (xPre E dC dI A C nb sz st sl so)) (va_Qi (fun (r : Int32) (x : XT) => XG [1, 2, 3, 4, 5, 6, 7, 8, 9, 12, 13, 14, 15] st x.1 ∧ LGq sl x.2.1 ∧ OG ad [2, 3, 4] so x.2.2 ∧ ((∃ n : Nat, r = 1 ∧ x.1 1 9 = nI n ∧ n < 8) ∨ (r = 0 ∧ ¬ x.1 1 13 = 0))) (xB dC dI A C nb) (XA A sz)) 0 0 (XA A sz) := by
  refine Met.ofW (cc := cX8_takeNamed) (maxL := 3) (ret := (some .boolean)) (by decide) rfl ?_
  intro p e s m args below meth c s₁ B hml hv
  obtain ⟨rfl, hsz, hP, hK, hE⟩ := hv
  have hx := B.exec
  have hb := B.bytes
  have hr := B.returns
  have hts := atoms_spec (ws := wsX8_takeNamed) B.pre
  have hown : s.vm.findClass RX8 = some m.cls := findClass_of_methodNamed B.named
  subst hsz
  have hEv := hEE.1 _ _ _ hE
  have hS : va_S (XA A s.heap.size) s.heap s.heap [] := va_S.rf
  have hG : XG [1, 2, 3, 4, 5, 6, 7, 8, 9, 12, 13, 14, 15] st st := XG.rf hI
  have hO : OG ad [2, 3, 4] so so := OG.rf hOI
  have hl := lv_entry ([.ref (A 1), .ref (A (36 + 20 * i)), .int 1]) (n := 3) (Nat.le_of_ble_eq_true rfl)
  rw [lg_entry_eq]
  generalize (lg_sl ([.ref (A 1), .ref (A (36 + 20 * i)), .int 1]) ++ List.replicate (3 - (lg_sl ([.ref (A 1), .ref (A (36 + 20 * i)), .int 1])).length) Slot.unset).toArray = ls at hl ⊢
  have hl : lv_has ls 3 [(0, .ref (A 1)), (1, .ref (A (36 + 20 * i))), (2, .int 1)] := hl
  have hL : LGq sl sl := LGq.rf
  refine lv_aload_n hx hb dX8_takeNamed_0 rfl (lv_at hl 0 rfl) ?_
  refine va_get (D := (dC, dI)) (ci := 9) (v := va_rf (so 1 7)) (C := RX8) (T := TX8) (N := 15) hx hb hts ii_X8_takeNamed_X8 hown hK hP 1 (xw_is (r := 1) (by omega) (xc_fix (r := 1) (by omega))) rfl 7 (by decide) (hts _ mm_X8_takeNamed_1) (fun _ hh => hh) rfl dX8_takeNamed_1 ?_
  obtain ⟨j1, hj1, ej1⟩ := hO.1.2
  refine zz_topq (r := some (ad j1)) (by rw [ej1]) ?_
  refine va_gets (v := .ref (ad 24)) hx hb (EV.word hEv (i := 24) (by decide)) hS hown (hts _ mm_X8_takeNamed_2) (fun _ hh => hh) dX8_takeNamed_4 ?_
  refine lv_acmp_eq (rx := (some (ad j1))) (ry := (some (ad 24))) (tgt := 16) hx hb dX8_takeNamed_7 (by decide) (fun c1 => ?_) (fun c1 => ?_)
  · have c1 : j1 = 24 := (EV.eqw hEv (i := j1) (j := 24) (by omega) (by omega)).mp c1
    refine lv_aload_n hx hb dX8_takeNamed_16 rfl (lv_at hl 0 rfl) ?_
    refine lv_aload_n hx hb dX8_takeNamed_17 rfl (lv_at hl 1 rfl) ?_
    refine lv_iload_n hx hb dX8_takeNamed_18 rfl (lv_at hl 2 rfl) ?_
    refine lv_aload_n hx hb dX8_takeNamed_19 rfl (lv_at hl 0 rfl) ?_
    refine va_get (D := (dC, dI)) (ci := 9) (v := .long (sl 1 8)) (C := RX8) (T := TX8) (N := 15) hx hb hts ii_X8_takeNamed_X8 hown hK hP 1 (xw_is (r := 1) (by omega) (xc_fix (r := 1) (by omega))) rfl 8 (by decide) (hts _ mm_X8_takeNamed_3) (fun _ hh => hh) rfl dX8_takeNamed_20 ?_
    refine lv_topl (fun z2 ez2 => ?_)
    clear ez2
    refine va_calli (va_runV (As := [.int 1, .long z2]) (rest := [.ref (A 1)]) ⟨hx, hb, hml, hown, hts⟩ (x_numberOf1 l dC dI ad E hEE A C nb _ hN st sl so i z2 (by omega) hG.1) (cwV 2 hts gX8_takeNamed_X4_numberOf rfl rfl rfl (by decide +kernel) ⟨Nat.le_of_ble_eq_true rfl, Nat.le_of_ble_eq_true rfl⟩) ⟨fun a U g mk q => ⟨q.1, xPre.blind hEE q.2⟩, va_recv hK hP (ci := 5) (q0 := (36 + 20 * i)) rfl (xw_is (r := (36 + 20 * i)) (by omega) (xc_pk (i := i) (o := 0) (by omega) (by omega))), fun U hU hW => ⟨rfl, xPre.of hEE hP hK hE hS hU hW⟩⟩ rfl rfl hl.1 rfl (lv_room (Nat.le_of_ble_eq_true rfl)) dX8_takeNamed_23 ⟨Nat.le_of_ble_eq_true rfl, Nat.le_of_ble_eq_true rfl⟩) hS (fun q _ h => XA.le hS.1 q h) (XA.le hS.1) (fun r3 x t H locs ht hvm hw hB _ _ hS => ?_)
    have hP := xB.at ht hB
    clear hB ht hvm
    obtain ⟨rfl, hw⟩ := hw
    have hP : va_P (dC, dI) vwCl (xw A C nb st sl so) _ := hP
    rcases hw with rfl | ⟨n4, rfl, hf5⟩
    · refine va_put (D := (dC, dI)) (ci := 9) (v := .int (-1)) (ty := .int) (C := RX8) (T := TX8) (N := 15) hx hb hts ii_X8_takeNamed_X8 tyX8 tyX8_ok nmX8 hown hK hP (xD hN _ _ _ _ _ _) hS 1 (xw_is (r := 1) (by omega) (xc_fix (r := 1) (by omega))) rfl 9 (by decide) (hts _ mm_X8_takeNamed_4) (fun _ hh => hh) rfl (by decide +kernel) rfl rfl (Nat.le_of_ble_eq_true rfl) dX8_takeNamed_26 (fun H locs hP _ hS => ?_)
      have hP : va_P (dC, dI) vwCl (xw A C nb (up2 st 1 9 (-1)) sl so) H := by rw [← xset (r := 1) (k := 9) (v := (-1)) (xc_fix (r := 1) (by omega))]; exact hP
      obtain ⟨st6, est6⟩ : ∃ y, y = up2 st 1 9 (-1) := ⟨_, rfl⟩
      have hG : XG [1, 2, 3, 4, 5, 6, 7, 8, 9, 12, 13, 14, 15] st st6 := by rw [est6]; exact hG.up (xz (r := 1) (k := 9) (by decide : xrg 1 9 = 0)) (xpn (c := 11) (by decide : xcl 1 9 = 11) (by decide))
      rw [← est6] at hP
      refine lv_aload_n hx hb dX8_takeNamed_29 rfl (lv_at hl 0 rfl) ?_
      refine va_get (D := (dC, dI)) (ci := 9) (v := .int (st6 1 9)) (C := RX8) (T := TX8) (N := 15) hx hb hts ii_X8_takeNamed_X8 hown hK hP 1 (xw_is (r := 1) (by omega) (xc_fix (r := 1) (by omega))) rfl 9 (by decide) (hts _ mm_X8_takeNamed_4) (fun _ hh => hh) rfl dX8_takeNamed_30 ?_
      refine zz_top (v := (-1)) (by show st6 1 9 = _; rw [est6, up2_same]) ?_
      refine lv_iconst (v := (-1)) hx hb dX8_takeNamed_33 (by decide) ?_
      refine lv_icmp_ne (tgt := 43) hx hb dX8_takeNamed_34 (by decide) (fun cc => absurd (by decide) cc) (fun _ => ?_)
      refine lv_aload_n hx hb dX8_takeNamed_37 rfl (lv_at hl 0 rfl) ?_
      refine lv_iconst (v := 3) hx hb dX8_takeNamed_38 (by decide) ?_
      refine va_calli (va_runV (As := [.int 3]) (rest := []) ⟨hx, hb, hml, hown, hts⟩ (x_X8_refuse l dC dI ad E hEE A C nb _ hN st6 sl so 3  hG.1) (cwV 1 hts gX8_takeNamed_X8_refuse rfl rfl rfl (by decide +kernel) ⟨Nat.le_of_ble_eq_true rfl, Nat.le_of_ble_eq_true rfl⟩) ⟨fun a U g mk q => ⟨q.1, xPre.blind hEE q.2⟩, va_recv hK hP (ci := 9) (q0 := 1) rfl (xw_is (r := 1) (by omega) (xc_fix (r := 1) (by omega))), fun U hU hW => ⟨rfl, xPre.of hEE hP hK hE hS hU hW⟩⟩ rfl rfl hl.1 rfl (lv_room (Nat.le_of_ble_eq_true rfl)) dX8_takeNamed_39 ⟨Nat.le_of_ble_eq_true rfl, Nat.le_of_ble_eq_true rfl⟩) hS (fun q _ h => XA.le hS.1 q h) (XA.le hS.1) (fun r7 x t H locs ht hvm hw hB _ _ hS => ?_)
      have hP := xB.at ht hB
      clear hB ht hvm
      obtain ⟨st8, sl9, so10⟩ := x
      obtain ⟨hGst8, hLGst8, hOst8, hw⟩ := hw
      dsimp only at hGst8 hLGst8 hOst8 hw
      have hL : LGq sl sl9 := hL.tr hLGst8
      replace hOst8 := hOst8.symm
      subst hOst8
      have hP : va_P (dC, dI) vwCl (xw A C nb st8 sl9 so) _ := hP
      have hG : XG [1, 2, 3, 4, 5, 6, 7, 8, 9, 12, 13, 14, 15] st st8 := hG.tr hGst8 (by decide)
      obtain ⟨rfl, hf11⟩ := hw
      exact W.zret (v := 0) hx hb hr rfl (fun t ht hW => ⟨⟨0, (st8, sl9, so), rfl, ⟨hG, hL, hO, Or.inr (⟨rfl, by show ¬ st8 1 13 = 0; rw [hf11]; decide⟩)⟩, xB.of ht hP⟩, hS.F ht⟩) hS.2.2 dX8_takeNamed_42
    · refine va_put (D := (dC, dI)) (ci := 9) (v := .int (nI n4)) (ty := .int) (C := RX8) (T := TX8) (N := 15) hx hb hts ii_X8_takeNamed_X8 tyX8 tyX8_ok nmX8 hown hK hP (xD hN _ _ _ _ _ _) hS 1 (xw_is (r := 1) (by omega) (xc_fix (r := 1) (by omega))) rfl 9 (by decide) (hts _ mm_X8_takeNamed_4) (fun _ hh => hh) rfl (by decide +kernel) rfl rfl (Nat.le_of_ble_eq_true rfl) dX8_takeNamed_26 (fun H locs hP _ hS => ?_)
      have hP : va_P (dC, dI) vwCl (xw A C nb (up2 st 1 9 (nI n4)) sl so) H := by rw [← xset (r := 1) (k := 9) (v := (nI n4)) (xc_fix (r := 1) (by omega))]; exact hP
      obtain ⟨st12, est12⟩ : ∃ y, y = up2 st 1 9 (nI n4) := ⟨_, rfl⟩
      have hG : XG [1, 2, 3, 4, 5, 6, 7, 8, 9, 12, 13, 14, 15] st st12 := by rw [est12]; exact hG.up (xz (r := 1) (k := 9) (by decide : xrg 1 9 = 0)) (xpn (c := 11) (by decide : xcl 1 9 = 11) (by decide))
      rw [← est12] at hP
      refine lv_aload_n hx hb dX8_takeNamed_29 rfl (lv_at hl 0 rfl) ?_
      refine va_get (D := (dC, dI)) (ci := 9) (v := .int (st12 1 9)) (C := RX8) (T := TX8) (N := 15) hx hb hts ii_X8_takeNamed_X8 hown hK hP 1 (xw_is (r := 1) (by omega) (xc_fix (r := 1) (by omega))) rfl 9 (by decide) (hts _ mm_X8_takeNamed_4) (fun _ hh => hh) rfl dX8_takeNamed_30 ?_
      refine zz_top (v := (nI n4)) (by show st12 1 9 = _; rw [est12, up2_same]) ?_
      refine lv_iconst (v := (-1)) hx hb dX8_takeNamed_33 (by decide) ?_
      refine lv_icmp_ne (tgt := 43) hx hb dX8_takeNamed_34 (by decide) (fun _ => ?_) (fun cc => absurd cc (nI_nem (by omega)))
      refine lv_aload_n hx hb dX8_takeNamed_43 rfl (lv_at hl 0 rfl) ?_
      refine va_callv (va_runV (As := []) (rest := []) ⟨hx, hb, hml, hown, hts⟩ (x_X8_step l dC dI ad E hEE A C nb _ hN st12 sl so  hG.1 hO.1) (cwV 0 hts gX8_takeNamed_X8_step rfl rfl rfl (by decide +kernel) ⟨Nat.le_of_ble_eq_true rfl, Nat.le_of_ble_eq_true rfl⟩) ⟨fun a U g mk q => ⟨q.1, xPre.blind hEE q.2⟩, va_recv hK hP (ci := 9) (q0 := 1) rfl (xw_is (r := 1) (by omega) (xc_fix (r := 1) (by omega))), fun U hU hW => ⟨rfl, xPre.of hEE hP hK hE hS hU hW⟩⟩ rfl rfl hl.1 rfl (lv_room (Nat.le_of_ble_eq_true rfl)) dX8_takeNamed_44 ⟨Nat.le_of_ble_eq_true rfl, Nat.le_of_ble_eq_true rfl⟩) hS (fun q _ h => XA.le hS.1 q h) (XA.le hS.1) (fun x t H locs ht hvm hw hB _ _ hS => ?_)
      have hP := xB.at ht hB
      clear hB ht hvm
      obtain ⟨st14, sl15, so16⟩ := x
      obtain ⟨hGst14, hLGst14, hOst14, hw⟩ := hw
      dsimp only at hGst14 hLGst14 hOst14 hw
      have hL : LGq sl sl15 := hL.tr hLGst14
      have hO : OG ad [2, 3, 4] so so16 := hO.tr hOst14 (by decide)
      have hP : va_P (dC, dI) vwCl (xw A C nb st14 sl15 so16) _ := hP
      have hG : XG [1, 2, 3, 4, 5, 6, 7, 8, 9, 12, 13, 14, 15] st st14 := hG.tr hGst14 (by decide)
      clear hw
      refine lv_iconst (v := 1) hx hb dX8_takeNamed_47 (by decide) ?_
      exact W.zret (v := 1) hx hb hr rfl (fun t ht hW => ⟨⟨1, (st14, sl15, so16), rfl, ⟨hG, hL, hO, Or.inl (⟨n4, rfl, by show st14 1 9 = _; rw [hGst14.2 1 9 (by rw [(by decide : xcl 1 9 = 11)]; decide), est12, up2_same], by omega⟩)⟩, xB.of ht hP⟩, hS.F ht⟩) hS.2.2 dX8_takeNamed_48
  · have c1 : ¬ j1 = 24 := fun hh => c1 ((EV.eqw hEv (i := j1) (j := 24) (by omega) (by omega)).mpr hh)
    refine lv_aload_n hx hb dX8_takeNamed_10 rfl (lv_at hl 0 rfl) ?_
    refine lv_iconst (v := 1) hx hb dX8_takeNamed_11 (by decide) ?_
    refine va_calli (va_runV (As := [.int 1]) (rest := []) ⟨hx, hb, hml, hown, hts⟩ (x_X8_refuse l dC dI ad E hEE A C nb _ hN st sl so 1  hG.1) (cwV 1 hts gX8_takeNamed_X8_refuse rfl rfl rfl (by decide +kernel) ⟨Nat.le_of_ble_eq_true rfl, Nat.le_of_ble_eq_true rfl⟩) ⟨fun a U g mk q => ⟨q.1, xPre.blind hEE q.2⟩, va_recv hK hP (ci := 9) (q0 := 1) rfl (xw_is (r := 1) (by omega) (xc_fix (r := 1) (by omega))), fun U hU hW => ⟨rfl, xPre.of hEE hP hK hE hS hU hW⟩⟩ rfl rfl hl.1 rfl (lv_room (Nat.le_of_ble_eq_true rfl)) dX8_takeNamed_12 ⟨Nat.le_of_ble_eq_true rfl, Nat.le_of_ble_eq_true rfl⟩) hS (fun q _ h => XA.le hS.1 q h) (XA.le hS.1) (fun r17 x t H locs ht hvm hw hB _ _ hS => ?_)
    have hP := xB.at ht hB
    clear hB ht hvm
    obtain ⟨st18, sl19, so20⟩ := x
    obtain ⟨hGst18, hLGst18, hOst18, hw⟩ := hw
    dsimp only at hGst18 hLGst18 hOst18 hw
    have hL : LGq sl sl19 := hL.tr hLGst18
    replace hOst18 := hOst18.symm
    subst hOst18
    have hP : va_P (dC, dI) vwCl (xw A C nb st18 sl19 so) _ := hP
    have hG : XG [1, 2, 3, 4, 5, 6, 7, 8, 9, 12, 13, 14, 15] st st18 := hG.tr hGst18 (by decide)
    obtain ⟨rfl, hf21⟩ := hw
    exact W.zret (v := 0) hx hb hr rfl (fun t ht hW => ⟨⟨0, (st18, sl19, so), rfl, ⟨hG, hL, hO, Or.inr (⟨rfl, by show ¬ st18 1 13 = 0; rw [hf21]; decide⟩)⟩, xB.of ht hP⟩, hS.F ht⟩) hS.2.2 dX8_takeNamed_15
set_option maxHeartbeats 4000000 in
set_option maxRecDepth 100000 in
theorem x_takeNamed2 (l : Launch) (dC : Nat → ClassId) (dI : Nat → Nat → Nat) (ad : Nat → Nat) (E : EP) (hEE : EC ad E) (A : Nat → Nat) (C : Nat → ClassId) (nb sz : Nat) (hN : XN A) (st : Nat → Nat → Int32) (sl : Nat → Nat → Int64) (so : Nat → XR) (i : Nat) (hi : i < 13) (hI : XI st) (hOI : OI ad so) : Met l yX8_takeNamed wsX8_takeNamed ({ frames := 6, cells := 0, slots := 0, locals := 130 }) (va_Pc [.ref (A 1), .ref (A (36 + 20 * i)), .int 2] (xPre E dC dI A C nb sz st sl so)) (va_Qi (fun (r : Int32) (x : XT) => XG [1, 2, 3, 4, 5, 6, 7, 8, 9, 12, 13, 14, 15] st x.1 ∧ LGq sl x.2.1 ∧ OG ad [2, 3, 4] so x.2.2 ∧ ((∃ n : Nat, r = 1 ∧ x.1 1 9 = nI n ∧ n < 6) ∨ (r = 0 ∧ ¬ x.1 1 13 = 0))) (xB dC dI A C nb) (XA A sz)) 0 0 (XA A sz) := by
  refine Met.ofW (cc := cX8_takeNamed) (maxL := 3) (ret := (some .boolean)) (by decide) rfl ?_
  intro p e s m args below meth c s₁ B hml hv
  obtain ⟨rfl, hsz, hP, hK, hE⟩ := hv
  have hx := B.exec
  have hb := B.bytes
  have hr := B.returns
  have hts := atoms_spec (ws := wsX8_takeNamed) B.pre
  have hown : s.vm.findClass RX8 = some m.cls := findClass_of_methodNamed B.named
  subst hsz
  have hEv := hEE.1 _ _ _ hE
  have hS : va_S (XA A s.heap.size) s.heap s.heap [] := va_S.rf
  have hG : XG [1, 2, 3, 4, 5, 6, 7, 8, 9, 12, 13, 14, 15] st st := XG.rf hI
  have hO : OG ad [2, 3, 4] so so := OG.rf hOI
  have hl := lv_entry ([.ref (A 1), .ref (A (36 + 20 * i)), .int 2]) (n := 3) (Nat.le_of_ble_eq_true rfl)
  rw [lg_entry_eq]
  generalize (lg_sl ([.ref (A 1), .ref (A (36 + 20 * i)), .int 2]) ++ List.replicate (3 - (lg_sl ([.ref (A 1), .ref (A (36 + 20 * i)), .int 2])).length) Slot.unset).toArray = ls at hl ⊢
  have hl : lv_has ls 3 [(0, .ref (A 1)), (1, .ref (A (36 + 20 * i))), (2, .int 2)] := hl
  have hL : LGq sl sl := LGq.rf
  refine lv_aload_n hx hb dX8_takeNamed_0 rfl (lv_at hl 0 rfl) ?_
  refine va_get (D := (dC, dI)) (ci := 9) (v := va_rf (so 1 7)) (C := RX8) (T := TX8) (N := 15) hx hb hts ii_X8_takeNamed_X8 hown hK hP 1 (xw_is (r := 1) (by omega) (xc_fix (r := 1) (by omega))) rfl 7 (by decide) (hts _ mm_X8_takeNamed_1) (fun _ hh => hh) rfl dX8_takeNamed_1 ?_
  obtain ⟨j1, hj1, ej1⟩ := hO.1.2
  refine zz_topq (r := some (ad j1)) (by rw [ej1]) ?_
  refine va_gets (v := .ref (ad 24)) hx hb (EV.word hEv (i := 24) (by decide)) hS hown (hts _ mm_X8_takeNamed_2) (fun _ hh => hh) dX8_takeNamed_4 ?_
  refine lv_acmp_eq (rx := (some (ad j1))) (ry := (some (ad 24))) (tgt := 16) hx hb dX8_takeNamed_7 (by decide) (fun c1 => ?_) (fun c1 => ?_)
  · have c1 : j1 = 24 := (EV.eqw hEv (i := j1) (j := 24) (by omega) (by omega)).mp c1
    refine lv_aload_n hx hb dX8_takeNamed_16 rfl (lv_at hl 0 rfl) ?_
    refine lv_aload_n hx hb dX8_takeNamed_17 rfl (lv_at hl 1 rfl) ?_
    refine lv_iload_n hx hb dX8_takeNamed_18 rfl (lv_at hl 2 rfl) ?_
    refine lv_aload_n hx hb dX8_takeNamed_19 rfl (lv_at hl 0 rfl) ?_
    refine va_get (D := (dC, dI)) (ci := 9) (v := .long (sl 1 8)) (C := RX8) (T := TX8) (N := 15) hx hb hts ii_X8_takeNamed_X8 hown hK hP 1 (xw_is (r := 1) (by omega) (xc_fix (r := 1) (by omega))) rfl 8 (by decide) (hts _ mm_X8_takeNamed_3) (fun _ hh => hh) rfl dX8_takeNamed_20 ?_
    refine lv_topl (fun z2 ez2 => ?_)
    clear ez2
    refine va_calli (va_runV (As := [.int 2, .long z2]) (rest := [.ref (A 1)]) ⟨hx, hb, hml, hown, hts⟩ (x_numberOf2 l dC dI ad E hEE A C nb _ hN st sl so i z2 (by omega) hG.1) (cwV 2 hts gX8_takeNamed_X4_numberOf rfl rfl rfl (by decide +kernel) ⟨Nat.le_of_ble_eq_true rfl, Nat.le_of_ble_eq_true rfl⟩) ⟨fun a U g mk q => ⟨q.1, xPre.blind hEE q.2⟩, va_recv hK hP (ci := 5) (q0 := (36 + 20 * i)) rfl (xw_is (r := (36 + 20 * i)) (by omega) (xc_pk (i := i) (o := 0) (by omega) (by omega))), fun U hU hW => ⟨rfl, xPre.of hEE hP hK hE hS hU hW⟩⟩ rfl rfl hl.1 rfl (lv_room (Nat.le_of_ble_eq_true rfl)) dX8_takeNamed_23 ⟨Nat.le_of_ble_eq_true rfl, Nat.le_of_ble_eq_true rfl⟩) hS (fun q _ h => XA.le hS.1 q h) (XA.le hS.1) (fun r3 x t H locs ht hvm hw hB _ _ hS => ?_)
    have hP := xB.at ht hB
    clear hB ht hvm
    obtain ⟨rfl, hw⟩ := hw
    have hP : va_P (dC, dI) vwCl (xw A C nb st sl so) _ := hP
    rcases hw with rfl | ⟨n4, rfl, hf5⟩
    · refine va_put (D := (dC, dI)) (ci := 9) (v := .int (-1)) (ty := .int) (C := RX8) (T := TX8) (N := 15) hx hb hts ii_X8_takeNamed_X8 tyX8 tyX8_ok nmX8 hown hK hP (xD hN _ _ _ _ _ _) hS 1 (xw_is (r := 1) (by omega) (xc_fix (r := 1) (by omega))) rfl 9 (by decide) (hts _ mm_X8_takeNamed_4) (fun _ hh => hh) rfl (by decide +kernel) rfl rfl (Nat.le_of_ble_eq_true rfl) dX8_takeNamed_26 (fun H locs hP _ hS => ?_)
      have hP : va_P (dC, dI) vwCl (xw A C nb (up2 st 1 9 (-1)) sl so) H := by rw [← xset (r := 1) (k := 9) (v := (-1)) (xc_fix (r := 1) (by omega))]; exact hP
      obtain ⟨st6, est6⟩ : ∃ y, y = up2 st 1 9 (-1) := ⟨_, rfl⟩
      have hG : XG [1, 2, 3, 4, 5, 6, 7, 8, 9, 12, 13, 14, 15] st st6 := by rw [est6]; exact hG.up (xz (r := 1) (k := 9) (by decide : xrg 1 9 = 0)) (xpn (c := 11) (by decide : xcl 1 9 = 11) (by decide))
      rw [← est6] at hP
      refine lv_aload_n hx hb dX8_takeNamed_29 rfl (lv_at hl 0 rfl) ?_
      refine va_get (D := (dC, dI)) (ci := 9) (v := .int (st6 1 9)) (C := RX8) (T := TX8) (N := 15) hx hb hts ii_X8_takeNamed_X8 hown hK hP 1 (xw_is (r := 1) (by omega) (xc_fix (r := 1) (by omega))) rfl 9 (by decide) (hts _ mm_X8_takeNamed_4) (fun _ hh => hh) rfl dX8_takeNamed_30 ?_
      refine zz_top (v := (-1)) (by show st6 1 9 = _; rw [est6, up2_same]) ?_
      refine lv_iconst (v := (-1)) hx hb dX8_takeNamed_33 (by decide) ?_
      refine lv_icmp_ne (tgt := 43) hx hb dX8_takeNamed_34 (by decide) (fun cc => absurd (by decide) cc) (fun _ => ?_)
      refine lv_aload_n hx hb dX8_takeNamed_37 rfl (lv_at hl 0 rfl) ?_
      refine lv_iconst (v := 3) hx hb dX8_takeNamed_38 (by decide) ?_
      refine va_calli (va_runV (As := [.int 3]) (rest := []) ⟨hx, hb, hml, hown, hts⟩ (x_X8_refuse l dC dI ad E hEE A C nb _ hN st6 sl so 3  hG.1) (cwV 1 hts gX8_takeNamed_X8_refuse rfl rfl rfl (by decide +kernel) ⟨Nat.le_of_ble_eq_true rfl, Nat.le_of_ble_eq_true rfl⟩) ⟨fun a U g mk q => ⟨q.1, xPre.blind hEE q.2⟩, va_recv hK hP (ci := 9) (q0 := 1) rfl (xw_is (r := 1) (by omega) (xc_fix (r := 1) (by omega))), fun U hU hW => ⟨rfl, xPre.of hEE hP hK hE hS hU hW⟩⟩ rfl rfl hl.1 rfl (lv_room (Nat.le_of_ble_eq_true rfl)) dX8_takeNamed_39 ⟨Nat.le_of_ble_eq_true rfl, Nat.le_of_ble_eq_true rfl⟩) hS (fun q _ h => XA.le hS.1 q h) (XA.le hS.1) (fun r7 x t H locs ht hvm hw hB _ _ hS => ?_)
      have hP := xB.at ht hB
      clear hB ht hvm
      obtain ⟨st8, sl9, so10⟩ := x
      obtain ⟨hGst8, hLGst8, hOst8, hw⟩ := hw
      dsimp only at hGst8 hLGst8 hOst8 hw
      have hL : LGq sl sl9 := hL.tr hLGst8
      replace hOst8 := hOst8.symm
      subst hOst8
      have hP : va_P (dC, dI) vwCl (xw A C nb st8 sl9 so) _ := hP
      have hG : XG [1, 2, 3, 4, 5, 6, 7, 8, 9, 12, 13, 14, 15] st st8 := hG.tr hGst8 (by decide)
      obtain ⟨rfl, hf11⟩ := hw
      exact W.zret (v := 0) hx hb hr rfl (fun t ht hW => ⟨⟨0, (st8, sl9, so), rfl, ⟨hG, hL, hO, Or.inr (⟨rfl, by show ¬ st8 1 13 = 0; rw [hf11]; decide⟩)⟩, xB.of ht hP⟩, hS.F ht⟩) hS.2.2 dX8_takeNamed_42
    · refine va_put (D := (dC, dI)) (ci := 9) (v := .int (nI n4)) (ty := .int) (C := RX8) (T := TX8) (N := 15) hx hb hts ii_X8_takeNamed_X8 tyX8 tyX8_ok nmX8 hown hK hP (xD hN _ _ _ _ _ _) hS 1 (xw_is (r := 1) (by omega) (xc_fix (r := 1) (by omega))) rfl 9 (by decide) (hts _ mm_X8_takeNamed_4) (fun _ hh => hh) rfl (by decide +kernel) rfl rfl (Nat.le_of_ble_eq_true rfl) dX8_takeNamed_26 (fun H locs hP _ hS => ?_)
      have hP : va_P (dC, dI) vwCl (xw A C nb (up2 st 1 9 (nI n4)) sl so) H := by rw [← xset (r := 1) (k := 9) (v := (nI n4)) (xc_fix (r := 1) (by omega))]; exact hP
      obtain ⟨st12, est12⟩ : ∃ y, y = up2 st 1 9 (nI n4) := ⟨_, rfl⟩
      have hG : XG [1, 2, 3, 4, 5, 6, 7, 8, 9, 12, 13, 14, 15] st st12 := by rw [est12]; exact hG.up (xz (r := 1) (k := 9) (by decide : xrg 1 9 = 0)) (xpn (c := 11) (by decide : xcl 1 9 = 11) (by decide))
      rw [← est12] at hP
      refine lv_aload_n hx hb dX8_takeNamed_29 rfl (lv_at hl 0 rfl) ?_
      refine va_get (D := (dC, dI)) (ci := 9) (v := .int (st12 1 9)) (C := RX8) (T := TX8) (N := 15) hx hb hts ii_X8_takeNamed_X8 hown hK hP 1 (xw_is (r := 1) (by omega) (xc_fix (r := 1) (by omega))) rfl 9 (by decide) (hts _ mm_X8_takeNamed_4) (fun _ hh => hh) rfl dX8_takeNamed_30 ?_
      refine zz_top (v := (nI n4)) (by show st12 1 9 = _; rw [est12, up2_same]) ?_
      refine lv_iconst (v := (-1)) hx hb dX8_takeNamed_33 (by decide) ?_
      refine lv_icmp_ne (tgt := 43) hx hb dX8_takeNamed_34 (by decide) (fun _ => ?_) (fun cc => absurd cc (nI_nem (by omega)))
      refine lv_aload_n hx hb dX8_takeNamed_43 rfl (lv_at hl 0 rfl) ?_
      refine va_callv (va_runV (As := []) (rest := []) ⟨hx, hb, hml, hown, hts⟩ (x_X8_step l dC dI ad E hEE A C nb _ hN st12 sl so  hG.1 hO.1) (cwV 0 hts gX8_takeNamed_X8_step rfl rfl rfl (by decide +kernel) ⟨Nat.le_of_ble_eq_true rfl, Nat.le_of_ble_eq_true rfl⟩) ⟨fun a U g mk q => ⟨q.1, xPre.blind hEE q.2⟩, va_recv hK hP (ci := 9) (q0 := 1) rfl (xw_is (r := 1) (by omega) (xc_fix (r := 1) (by omega))), fun U hU hW => ⟨rfl, xPre.of hEE hP hK hE hS hU hW⟩⟩ rfl rfl hl.1 rfl (lv_room (Nat.le_of_ble_eq_true rfl)) dX8_takeNamed_44 ⟨Nat.le_of_ble_eq_true rfl, Nat.le_of_ble_eq_true rfl⟩) hS (fun q _ h => XA.le hS.1 q h) (XA.le hS.1) (fun x t H locs ht hvm hw hB _ _ hS => ?_)
      have hP := xB.at ht hB
      clear hB ht hvm
      obtain ⟨st14, sl15, so16⟩ := x
      obtain ⟨hGst14, hLGst14, hOst14, hw⟩ := hw
      dsimp only at hGst14 hLGst14 hOst14 hw
      have hL : LGq sl sl15 := hL.tr hLGst14
      have hO : OG ad [2, 3, 4] so so16 := hO.tr hOst14 (by decide)
      have hP : va_P (dC, dI) vwCl (xw A C nb st14 sl15 so16) _ := hP
      have hG : XG [1, 2, 3, 4, 5, 6, 7, 8, 9, 12, 13, 14, 15] st st14 := hG.tr hGst14 (by decide)
      clear hw
      refine lv_iconst (v := 1) hx hb dX8_takeNamed_47 (by decide) ?_
      exact W.zret (v := 1) hx hb hr rfl (fun t ht hW => ⟨⟨1, (st14, sl15, so16), rfl, ⟨hG, hL, hO, Or.inl (⟨n4, rfl, by show st14 1 9 = _; rw [hGst14.2 1 9 (by rw [(by decide : xcl 1 9 = 11)]; decide), est12, up2_same], by omega⟩)⟩, xB.of ht hP⟩, hS.F ht⟩) hS.2.2 dX8_takeNamed_48
  · have c1 : ¬ j1 = 24 := fun hh => c1 ((EV.eqw hEv (i := j1) (j := 24) (by omega) (by omega)).mpr hh)
    refine lv_aload_n hx hb dX8_takeNamed_10 rfl (lv_at hl 0 rfl) ?_
    refine lv_iconst (v := 1) hx hb dX8_takeNamed_11 (by decide) ?_
    refine va_calli (va_runV (As := [.int 1]) (rest := []) ⟨hx, hb, hml, hown, hts⟩ (x_X8_refuse l dC dI ad E hEE A C nb _ hN st sl so 1  hG.1) (cwV 1 hts gX8_takeNamed_X8_refuse rfl rfl rfl (by decide +kernel) ⟨Nat.le_of_ble_eq_true rfl, Nat.le_of_ble_eq_true rfl⟩) ⟨fun a U g mk q => ⟨q.1, xPre.blind hEE q.2⟩, va_recv hK hP (ci := 9) (q0 := 1) rfl (xw_is (r := 1) (by omega) (xc_fix (r := 1) (by omega))), fun U hU hW => ⟨rfl, xPre.of hEE hP hK hE hS hU hW⟩⟩ rfl rfl hl.1 rfl (lv_room (Nat.le_of_ble_eq_true rfl)) dX8_takeNamed_12 ⟨Nat.le_of_ble_eq_true rfl, Nat.le_of_ble_eq_true rfl⟩) hS (fun q _ h => XA.le hS.1 q h) (XA.le hS.1) (fun r17 x t H locs ht hvm hw hB _ _ hS => ?_)
    have hP := xB.at ht hB
    clear hB ht hvm
    obtain ⟨st18, sl19, so20⟩ := x
    obtain ⟨hGst18, hLGst18, hOst18, hw⟩ := hw
    dsimp only at hGst18 hLGst18 hOst18 hw
    have hL : LGq sl sl19 := hL.tr hLGst18
    replace hOst18 := hOst18.symm
    subst hOst18
    have hP : va_P (dC, dI) vwCl (xw A C nb st18 sl19 so) _ := hP
    have hG : XG [1, 2, 3, 4, 5, 6, 7, 8, 9, 12, 13, 14, 15] st st18 := hG.tr hGst18 (by decide)
    obtain ⟨rfl, hf21⟩ := hw
    exact W.zret (v := 0) hx hb hr rfl (fun t ht hW => ⟨⟨0, (st18, sl19, so), rfl, ⟨hG, hL, hO, Or.inr (⟨rfl, by show ¬ st18 1 13 = 0; rw [hf21]; decide⟩)⟩, xB.of ht hP⟩, hS.F ht⟩) hS.2.2 dX8_takeNamed_15
set_option maxHeartbeats 4000000 in
set_option maxRecDepth 100000 in
theorem x_X8_takeNewName (l : Launch) (dC : Nat → ClassId) (dI : Nat → Nat → Nat) (ad : Nat → Nat) (E : EP) (hEE : EC ad E) (A : Nat → Nat) (C : Nat → ClassId) (nb sz : Nat) (hN : XN A) (st : Nat → Nat → Int32) (sl : Nat → Nat → Int64) (so : Nat → XR) (i : Nat) (hi : i < 13) (hI : XI st) (hOI : OI ad so) : Met l yX8_takeNewName wsX8_takeNewName ({ frames := 6, cells := 0, slots := 0, locals := 130 }) (va_Pc [.ref (A 1), .ref (A (36 + 20 * i))] (xPre E dC dI A C nb sz st sl so)) (va_Qi (fun (r : Int32) (x : XT) => XG [1, 2, 3, 4, 5, 6, 7, 8, 9, 11, 12, 13, 14, 15] st x.1 ∧ LGq sl x.2.1 ∧ OG ad [2, 3, 4] so x.2.2 ∧ ((r = 1) ∨ (r = 0 ∧ ¬ x.1 1 13 = 0))) (xB dC dI A C nb) (XA A sz)) 0 0 (XA A sz) := by
  refine Met.ofW (cc := cX8_takeNewName) (maxL := 2) (ret := (some .boolean)) (by decide) rfl ?_
  intro p e s m args below meth c s₁ B hml hv
  obtain ⟨rfl, hsz, hP, hK, hE⟩ := hv
  have hx := B.exec
  have hb := B.bytes
  have hr := B.returns
  have hts := atoms_spec (ws := wsX8_takeNewName) B.pre
  have hown : s.vm.findClass RX8 = some m.cls := findClass_of_methodNamed B.named
  subst hsz
  have hEv := hEE.1 _ _ _ hE
  have hS : va_S (XA A s.heap.size) s.heap s.heap [] := va_S.rf
  have hG : XG [1, 2, 3, 4, 5, 6, 7, 8, 9, 11, 12, 13, 14, 15] st st := XG.rf hI
  have hO : OG ad [2, 3, 4] so so := OG.rf hOI
  have hl := lv_entry ([.ref (A 1), .ref (A (36 + 20 * i))]) (n := 2) (Nat.le_of_ble_eq_true rfl)
  rw [lg_entry_eq]
  generalize (lg_sl ([.ref (A 1), .ref (A (36 + 20 * i))]) ++ List.replicate (2 - (lg_sl ([.ref (A 1), .ref (A (36 + 20 * i))])).length) Slot.unset).toArray = ls at hl ⊢
  have hl : lv_has ls 2 [(0, .ref (A 1)), (1, .ref (A (36 + 20 * i)))] := hl
  have hL : LGq sl sl := LGq.rf
  refine lv_aload_n hx hb dX8_takeNewName_0 rfl (lv_at hl 0 rfl) ?_
  refine va_get (D := (dC, dI)) (ci := 9) (v := va_rf (so 1 7)) (C := RX8) (T := TX8) (N := 15) hx hb hts ii_X8_takeNewName_X8 hown hK hP 1 (xw_is (r := 1) (by omega) (xc_fix (r := 1) (by omega))) rfl 7 (by decide) (hts _ mm_X8_takeNewName_1) (fun _ hh => hh) rfl dX8_takeNewName_1 ?_
  obtain ⟨j1, hj1, ej1⟩ := hO.1.2
  refine zz_topq (r := some (ad j1)) (by rw [ej1]) ?_
  refine va_gets (v := .ref (ad 24)) hx hb (EV.word hEv (i := 24) (by decide)) hS hown (hts _ mm_X8_takeNewName_2) (fun _ hh => hh) dX8_takeNewName_4 ?_
  refine lv_acmp_eq (rx := (some (ad j1))) (ry := (some (ad 24))) (tgt := 16) hx hb dX8_takeNewName_7 (by decide) (fun c1 => ?_) (fun c1 => ?_)
  · have c1 : j1 = 24 := (EV.eqw hEv (i := j1) (j := 24) (by omega) (by omega)).mp c1
    refine lv_aload_n hx hb dX8_takeNewName_16 rfl (lv_at hl 1 rfl) ?_
    refine lv_iconst (v := 0) hx hb dX8_takeNewName_17 (by decide) ?_
    refine lv_aload_n hx hb dX8_takeNewName_18 rfl (lv_at hl 0 rfl) ?_
    refine va_get (D := (dC, dI)) (ci := 9) (v := .long (sl 1 8)) (C := RX8) (T := TX8) (N := 15) hx hb hts ii_X8_takeNewName_X8 hown hK hP 1 (xw_is (r := 1) (by omega) (xc_fix (r := 1) (by omega))) rfl 8 (by decide) (hts _ mm_X8_takeNewName_3) (fun _ hh => hh) rfl dX8_takeNewName_19 ?_
    refine lv_topl (fun z2 ez2 => ?_)
    clear ez2
    refine va_calli (va_runV (As := [.int 0, .long z2]) (rest := []) ⟨hx, hb, hml, hown, hts⟩ (x_numberOf0 l dC dI ad E hEE A C nb _ hN st sl so i z2 (by omega) hG.1) (cwV 2 hts gX8_takeNewName_X4_numberOf rfl rfl rfl (by decide +kernel) ⟨Nat.le_of_ble_eq_true rfl, Nat.le_of_ble_eq_true rfl⟩) ⟨fun a U g mk q => ⟨q.1, xPre.blind hEE q.2⟩, va_recv hK hP (ci := 5) (q0 := (36 + 20 * i)) rfl (xw_is (r := (36 + 20 * i)) (by omega) (xc_pk (i := i) (o := 0) (by omega) (by omega))), fun U hU hW => ⟨rfl, xPre.of hEE hP hK hE hS hU hW⟩⟩ rfl rfl hl.1 rfl (lv_room (Nat.le_of_ble_eq_true rfl)) dX8_takeNewName_22 ⟨Nat.le_of_ble_eq_true rfl, Nat.le_of_ble_eq_true rfl⟩) hS (fun q _ h => XA.le hS.1 q h) (XA.le hS.1) (fun r3 x t H locs ht hvm hw hB _ _ hS => ?_)
    have hP := xB.at ht hB
    clear hB ht hvm
    obtain ⟨rfl, hw⟩ := hw
    have hP : va_P (dC, dI) vwCl (xw A C nb st sl so) _ := hP
    rcases hw with rfl | ⟨n4, rfl, hf5⟩
    · refine lv_iconst (v := (-1)) hx hb dX8_takeNewName_25 (by decide) ?_
      refine lv_icmp_ne (tgt := 55) hx hb dX8_takeNewName_26 (by decide) (fun cc => absurd (by decide) cc) (fun _ => ?_)
      refine lv_aload_n hx hb dX8_takeNewName_29 rfl (lv_at hl 1 rfl) ?_
      refine lv_iconst (v := 1) hx hb dX8_takeNewName_30 (by decide) ?_
      refine lv_aload_n hx hb dX8_takeNewName_31 rfl (lv_at hl 0 rfl) ?_
      refine va_get (D := (dC, dI)) (ci := 9) (v := .long (sl 1 8)) (C := RX8) (T := TX8) (N := 15) hx hb hts ii_X8_takeNewName_X8 hown hK hP 1 (xw_is (r := 1) (by omega) (xc_fix (r := 1) (by omega))) rfl 8 (by decide) (hts _ mm_X8_takeNewName_3) (fun _ hh => hh) rfl dX8_takeNewName_32 ?_
      refine lv_topl (fun z6 ez6 => ?_)
      clear ez6
      refine va_calli (va_runV (As := [.int 1, .long z6]) (rest := []) ⟨hx, hb, hml, hown, hts⟩ (x_numberOf1 l dC dI ad E hEE A C nb _ hN st sl so i z6 (by omega) hG.1) (cwV 2 hts gX8_takeNewName_X4_numberOf rfl rfl rfl (by decide +kernel) ⟨Nat.le_of_ble_eq_true rfl, Nat.le_of_ble_eq_true rfl⟩) ⟨fun a U g mk q => ⟨q.1, xPre.blind hEE q.2⟩, va_recv hK hP (ci := 5) (q0 := (36 + 20 * i)) rfl (xw_is (r := (36 + 20 * i)) (by omega) (xc_pk (i := i) (o := 0) (by omega) (by omega))), fun U hU hW => ⟨rfl, xPre.of hEE hP hK hE hS hU hW⟩⟩ rfl rfl hl.1 rfl (lv_room (Nat.le_of_ble_eq_true rfl)) dX8_takeNewName_35 ⟨Nat.le_of_ble_eq_true rfl, Nat.le_of_ble_eq_true rfl⟩) hS (fun q _ h => XA.le hS.1 q h) (XA.le hS.1) (fun r7 x t H locs ht hvm hw hB _ _ hS => ?_)
      have hP := xB.at ht hB
      clear hB ht hvm
      obtain ⟨rfl, hw⟩ := hw
      have hP : va_P (dC, dI) vwCl (xw A C nb st sl so) _ := hP
      rcases hw with rfl | ⟨n8, rfl, hf9⟩
      · refine lv_iconst (v := (-1)) hx hb dX8_takeNewName_38 (by decide) ?_
        refine lv_icmp_ne (tgt := 55) hx hb dX8_takeNewName_39 (by decide) (fun cc => absurd (by decide) cc) (fun _ => ?_)
        refine lv_aload_n hx hb dX8_takeNewName_42 rfl (lv_at hl 1 rfl) ?_
        refine lv_iconst (v := 2) hx hb dX8_takeNewName_43 (by decide) ?_
        refine lv_aload_n hx hb dX8_takeNewName_44 rfl (lv_at hl 0 rfl) ?_
        refine va_get (D := (dC, dI)) (ci := 9) (v := .long (sl 1 8)) (C := RX8) (T := TX8) (N := 15) hx hb hts ii_X8_takeNewName_X8 hown hK hP 1 (xw_is (r := 1) (by omega) (xc_fix (r := 1) (by omega))) rfl 8 (by decide) (hts _ mm_X8_takeNewName_3) (fun _ hh => hh) rfl dX8_takeNewName_45 ?_
        refine lv_topl (fun z10 ez10 => ?_)
        clear ez10
        refine va_calli (va_runV (As := [.int 2, .long z10]) (rest := []) ⟨hx, hb, hml, hown, hts⟩ (x_numberOf2 l dC dI ad E hEE A C nb _ hN st sl so i z10 (by omega) hG.1) (cwV 2 hts gX8_takeNewName_X4_numberOf rfl rfl rfl (by decide +kernel) ⟨Nat.le_of_ble_eq_true rfl, Nat.le_of_ble_eq_true rfl⟩) ⟨fun a U g mk q => ⟨q.1, xPre.blind hEE q.2⟩, va_recv hK hP (ci := 5) (q0 := (36 + 20 * i)) rfl (xw_is (r := (36 + 20 * i)) (by omega) (xc_pk (i := i) (o := 0) (by omega) (by omega))), fun U hU hW => ⟨rfl, xPre.of hEE hP hK hE hS hU hW⟩⟩ rfl rfl hl.1 rfl (lv_room (Nat.le_of_ble_eq_true rfl)) dX8_takeNewName_48 ⟨Nat.le_of_ble_eq_true rfl, Nat.le_of_ble_eq_true rfl⟩) hS (fun q _ h => XA.le hS.1 q h) (XA.le hS.1) (fun r11 x t H locs ht hvm hw hB _ _ hS => ?_)
        have hP := xB.at ht hB
        clear hB ht hvm
        obtain ⟨rfl, hw⟩ := hw
        have hP : va_P (dC, dI) vwCl (xw A C nb st sl so) _ := hP
        rcases hw with rfl | ⟨n12, rfl, hf13⟩
        · refine lv_iconst (v := (-1)) hx hb dX8_takeNewName_51 (by decide) ?_
          refine lv_icmp_eq (tgt := 61) hx hb dX8_takeNewName_52 (by decide) (fun _ => ?_) (fun cc => absurd (by decide) cc)
          refine lv_aload_n hx hb dX8_takeNewName_61 rfl (lv_at hl 0 rfl) ?_
          refine lv_aload_n hx hb dX8_takeNewName_62 rfl (lv_at hl 0 rfl) ?_
          refine va_get (D := (dC, dI)) (ci := 9) (v := .long (sl 1 8)) (C := RX8) (T := TX8) (N := 15) hx hb hts ii_X8_takeNewName_X8 hown hK hP 1 (xw_is (r := 1) (by omega) (xc_fix (r := 1) (by omega))) rfl 8 (by decide) (hts _ mm_X8_takeNewName_3) (fun _ hh => hh) rfl dX8_takeNewName_63 ?_
          refine lv_topl (fun z14 ez14 => ?_)
          clear ez14
          refine va_put (D := (dC, dI)) (ci := 9) (v := .long z14) (ty := .long) (C := RX8) (T := TX8) (N := 15) hx hb hts ii_X8_takeNewName_X8 tyX8 tyX8_ok nmX8 hown hK hP (xD hN _ _ _ _ _ _) hS 1 (xw_is (r := 1) (by omega) (xc_fix (r := 1) (by omega))) rfl 10 (by decide) (hts _ mm_X8_takeNewName_4) (fun _ hh => hh) rfl (by decide +kernel) rfl rfl (Nat.le_of_ble_eq_true rfl) dX8_takeNewName_66 (fun H locs hP _ hS => ?_)
          have hP : va_P (dC, dI) vwCl (xw A C nb st (upL sl 1 10 z14) so) H := by rw [← xsetL (r := 1) (k := 10) (v := z14) (xc_fix (r := 1) (by omega))]; exact hP
          obtain ⟨sl15, esl15⟩ : ∃ y, y = upL sl 1 10 z14 := ⟨_, rfl⟩
          rw [← esl15] at hP
          have hL : LGq sl sl15 := by rw [esl15]; exact hL.up (by omega)
          clear esl15
          refine lv_aload_n hx hb dX8_takeNewName_69 rfl (lv_at hl 0 rfl) ?_
          refine va_callv (va_runV (As := []) (rest := []) ⟨hx, hb, hml, hown, hts⟩ (x_X8_step l dC dI ad E hEE A C nb _ hN st sl15 so  hG.1 hO.1) (cwV 0 hts gX8_takeNewName_X8_step rfl rfl rfl (by decide +kernel) ⟨Nat.le_of_ble_eq_true rfl, Nat.le_of_ble_eq_true rfl⟩) ⟨fun a U g mk q => ⟨q.1, xPre.blind hEE q.2⟩, va_recv hK hP (ci := 9) (q0 := 1) rfl (xw_is (r := 1) (by omega) (xc_fix (r := 1) (by omega))), fun U hU hW => ⟨rfl, xPre.of hEE hP hK hE hS hU hW⟩⟩ rfl rfl hl.1 rfl (lv_room (Nat.le_of_ble_eq_true rfl)) dX8_takeNewName_70 ⟨Nat.le_of_ble_eq_true rfl, Nat.le_of_ble_eq_true rfl⟩) hS (fun q _ h => XA.le hS.1 q h) (XA.le hS.1) (fun x t H locs ht hvm hw hB _ _ hS => ?_)
          have hP := xB.at ht hB
          clear hB ht hvm
          obtain ⟨st17, sl18, so19⟩ := x
          obtain ⟨hGst17, hLGst17, hOst17, hw⟩ := hw
          dsimp only at hGst17 hLGst17 hOst17 hw
          have hL : LGq sl sl18 := hL.tr hLGst17
          have hO : OG ad [2, 3, 4] so so19 := hO.tr hOst17 (by decide)
          have hP : va_P (dC, dI) vwCl (xw A C nb st17 sl18 so19) _ := hP
          have hG : XG [1, 2, 3, 4, 5, 6, 7, 8, 9, 11, 12, 13, 14, 15] st st17 := hG.tr hGst17 (by decide)
          clear hw
          refine lv_iconst (v := 1) hx hb dX8_takeNewName_73 (by decide) ?_
          exact W.zret (v := 1) hx hb hr rfl (fun t ht hW => ⟨⟨1, (st17, sl18, so19), rfl, ⟨hG, hL, hO, Or.inl (rfl)⟩, xB.of ht hP⟩, hS.F ht⟩) hS.2.2 dX8_takeNewName_74
        · refine lv_iconst (v := (-1)) hx hb dX8_takeNewName_51 (by decide) ?_
          refine lv_icmp_eq (tgt := 61) hx hb dX8_takeNewName_52 (by decide) (fun cc => absurd cc (nI_nem (by omega))) (fun _ => ?_)
          refine lv_aload_n hx hb dX8_takeNewName_55 rfl (lv_at hl 0 rfl) ?_
          refine lv_iconst (v := 3) hx hb dX8_takeNewName_56 (by decide) ?_
          refine va_calli (va_runV (As := [.int 3]) (rest := []) ⟨hx, hb, hml, hown, hts⟩ (x_X8_refuse l dC dI ad E hEE A C nb _ hN st sl so 3  hG.1) (cwV 1 hts gX8_takeNewName_X8_refuse rfl rfl rfl (by decide +kernel) ⟨Nat.le_of_ble_eq_true rfl, Nat.le_of_ble_eq_true rfl⟩) ⟨fun a U g mk q => ⟨q.1, xPre.blind hEE q.2⟩, va_recv hK hP (ci := 9) (q0 := 1) rfl (xw_is (r := 1) (by omega) (xc_fix (r := 1) (by omega))), fun U hU hW => ⟨rfl, xPre.of hEE hP hK hE hS hU hW⟩⟩ rfl rfl hl.1 rfl (lv_room (Nat.le_of_ble_eq_true rfl)) dX8_takeNewName_57 ⟨Nat.le_of_ble_eq_true rfl, Nat.le_of_ble_eq_true rfl⟩) hS (fun q _ h => XA.le hS.1 q h) (XA.le hS.1) (fun r20 x t H locs ht hvm hw hB _ _ hS => ?_)
          have hP := xB.at ht hB
          clear hB ht hvm
          obtain ⟨st21, sl22, so23⟩ := x
          obtain ⟨hGst21, hLGst21, hOst21, hw⟩ := hw
          dsimp only at hGst21 hLGst21 hOst21 hw
          have hL : LGq sl sl22 := hL.tr hLGst21
          replace hOst21 := hOst21.symm
          subst hOst21
          have hP : va_P (dC, dI) vwCl (xw A C nb st21 sl22 so) _ := hP
          have hG : XG [1, 2, 3, 4, 5, 6, 7, 8, 9, 11, 12, 13, 14, 15] st st21 := hG.tr hGst21 (by decide)
          obtain ⟨rfl, hf24⟩ := hw
          exact W.zret (v := 0) hx hb hr rfl (fun t ht hW => ⟨⟨0, (st21, sl22, so), rfl, ⟨hG, hL, hO, Or.inr (⟨rfl, by show ¬ st21 1 13 = 0; rw [hf24]; decide⟩)⟩, xB.of ht hP⟩, hS.F ht⟩) hS.2.2 dX8_takeNewName_60
      · refine lv_iconst (v := (-1)) hx hb dX8_takeNewName_38 (by decide) ?_
        refine lv_icmp_ne (tgt := 55) hx hb dX8_takeNewName_39 (by decide) (fun _ => ?_) (fun cc => absurd cc (nI_nem (by omega)))
        refine lv_aload_n hx hb dX8_takeNewName_55 rfl (lv_at hl 0 rfl) ?_
        refine lv_iconst (v := 3) hx hb dX8_takeNewName_56 (by decide) ?_
        refine va_calli (va_runV (As := [.int 3]) (rest := []) ⟨hx, hb, hml, hown, hts⟩ (x_X8_refuse l dC dI ad E hEE A C nb _ hN st sl so 3  hG.1) (cwV 1 hts gX8_takeNewName_X8_refuse rfl rfl rfl (by decide +kernel) ⟨Nat.le_of_ble_eq_true rfl, Nat.le_of_ble_eq_true rfl⟩) ⟨fun a U g mk q => ⟨q.1, xPre.blind hEE q.2⟩, va_recv hK hP (ci := 9) (q0 := 1) rfl (xw_is (r := 1) (by omega) (xc_fix (r := 1) (by omega))), fun U hU hW => ⟨rfl, xPre.of hEE hP hK hE hS hU hW⟩⟩ rfl rfl hl.1 rfl (lv_room (Nat.le_of_ble_eq_true rfl)) dX8_takeNewName_57 ⟨Nat.le_of_ble_eq_true rfl, Nat.le_of_ble_eq_true rfl⟩) hS (fun q _ h => XA.le hS.1 q h) (XA.le hS.1) (fun r25 x t H locs ht hvm hw hB _ _ hS => ?_)
        have hP := xB.at ht hB
        clear hB ht hvm
        obtain ⟨st26, sl27, so28⟩ := x
        obtain ⟨hGst26, hLGst26, hOst26, hw⟩ := hw
        dsimp only at hGst26 hLGst26 hOst26 hw
        have hL : LGq sl sl27 := hL.tr hLGst26
        replace hOst26 := hOst26.symm
        subst hOst26
        have hP : va_P (dC, dI) vwCl (xw A C nb st26 sl27 so) _ := hP
        have hG : XG [1, 2, 3, 4, 5, 6, 7, 8, 9, 11, 12, 13, 14, 15] st st26 := hG.tr hGst26 (by decide)
        obtain ⟨rfl, hf29⟩ := hw
        exact W.zret (v := 0) hx hb hr rfl (fun t ht hW => ⟨⟨0, (st26, sl27, so), rfl, ⟨hG, hL, hO, Or.inr (⟨rfl, by show ¬ st26 1 13 = 0; rw [hf29]; decide⟩)⟩, xB.of ht hP⟩, hS.F ht⟩) hS.2.2 dX8_takeNewName_60
    · refine lv_iconst (v := (-1)) hx hb dX8_takeNewName_25 (by decide) ?_
      refine lv_icmp_ne (tgt := 55) hx hb dX8_takeNewName_26 (by decide) (fun _ => ?_) (fun cc => absurd cc (nI_nem (by omega)))
      refine lv_aload_n hx hb dX8_takeNewName_55 rfl (lv_at hl 0 rfl) ?_
      refine lv_iconst (v := 3) hx hb dX8_takeNewName_56 (by decide) ?_
      refine va_calli (va_runV (As := [.int 3]) (rest := []) ⟨hx, hb, hml, hown, hts⟩ (x_X8_refuse l dC dI ad E hEE A C nb _ hN st sl so 3  hG.1) (cwV 1 hts gX8_takeNewName_X8_refuse rfl rfl rfl (by decide +kernel) ⟨Nat.le_of_ble_eq_true rfl, Nat.le_of_ble_eq_true rfl⟩) ⟨fun a U g mk q => ⟨q.1, xPre.blind hEE q.2⟩, va_recv hK hP (ci := 9) (q0 := 1) rfl (xw_is (r := 1) (by omega) (xc_fix (r := 1) (by omega))), fun U hU hW => ⟨rfl, xPre.of hEE hP hK hE hS hU hW⟩⟩ rfl rfl hl.1 rfl (lv_room (Nat.le_of_ble_eq_true rfl)) dX8_takeNewName_57 ⟨Nat.le_of_ble_eq_true rfl, Nat.le_of_ble_eq_true rfl⟩) hS (fun q _ h => XA.le hS.1 q h) (XA.le hS.1) (fun r30 x t H locs ht hvm hw hB _ _ hS => ?_)
      have hP := xB.at ht hB
      clear hB ht hvm
      obtain ⟨st31, sl32, so33⟩ := x
      obtain ⟨hGst31, hLGst31, hOst31, hw⟩ := hw
      dsimp only at hGst31 hLGst31 hOst31 hw
      have hL : LGq sl sl32 := hL.tr hLGst31
      replace hOst31 := hOst31.symm
      subst hOst31
      have hP : va_P (dC, dI) vwCl (xw A C nb st31 sl32 so) _ := hP
      have hG : XG [1, 2, 3, 4, 5, 6, 7, 8, 9, 11, 12, 13, 14, 15] st st31 := hG.tr hGst31 (by decide)
      obtain ⟨rfl, hf34⟩ := hw
      exact W.zret (v := 0) hx hb hr rfl (fun t ht hW => ⟨⟨0, (st31, sl32, so), rfl, ⟨hG, hL, hO, Or.inr (⟨rfl, by show ¬ st31 1 13 = 0; rw [hf34]; decide⟩)⟩, xB.of ht hP⟩, hS.F ht⟩) hS.2.2 dX8_takeNewName_60
  · have c1 : ¬ j1 = 24 := fun hh => c1 ((EV.eqw hEv (i := j1) (j := 24) (by omega) (by omega)).mpr hh)
    refine lv_aload_n hx hb dX8_takeNewName_10 rfl (lv_at hl 0 rfl) ?_
    refine lv_iconst (v := 1) hx hb dX8_takeNewName_11 (by decide) ?_
    refine va_calli (va_runV (As := [.int 1]) (rest := []) ⟨hx, hb, hml, hown, hts⟩ (x_X8_refuse l dC dI ad E hEE A C nb _ hN st sl so 1  hG.1) (cwV 1 hts gX8_takeNewName_X8_refuse rfl rfl rfl (by decide +kernel) ⟨Nat.le_of_ble_eq_true rfl, Nat.le_of_ble_eq_true rfl⟩) ⟨fun a U g mk q => ⟨q.1, xPre.blind hEE q.2⟩, va_recv hK hP (ci := 9) (q0 := 1) rfl (xw_is (r := 1) (by omega) (xc_fix (r := 1) (by omega))), fun U hU hW => ⟨rfl, xPre.of hEE hP hK hE hS hU hW⟩⟩ rfl rfl hl.1 rfl (lv_room (Nat.le_of_ble_eq_true rfl)) dX8_takeNewName_12 ⟨Nat.le_of_ble_eq_true rfl, Nat.le_of_ble_eq_true rfl⟩) hS (fun q _ h => XA.le hS.1 q h) (XA.le hS.1) (fun r35 x t H locs ht hvm hw hB _ _ hS => ?_)
    have hP := xB.at ht hB
    clear hB ht hvm
    obtain ⟨st36, sl37, so38⟩ := x
    obtain ⟨hGst36, hLGst36, hOst36, hw⟩ := hw
    dsimp only at hGst36 hLGst36 hOst36 hw
    have hL : LGq sl sl37 := hL.tr hLGst36
    replace hOst36 := hOst36.symm
    subst hOst36
    have hP : va_P (dC, dI) vwCl (xw A C nb st36 sl37 so) _ := hP
    have hG : XG [1, 2, 3, 4, 5, 6, 7, 8, 9, 11, 12, 13, 14, 15] st st36 := hG.tr hGst36 (by decide)
    obtain ⟨rfl, hf39⟩ := hw
    exact W.zret (v := 0) hx hb hr rfl (fun t ht hW => ⟨⟨0, (st36, sl37, so), rfl, ⟨hG, hL, hO, Or.inr (⟨rfl, by show ¬ st36 1 13 = 0; rw [hf39]; decide⟩)⟩, xB.of ht hP⟩, hS.F ht⟩) hS.2.2 dX8_takeNewName_15
set_option maxHeartbeats 4000000 in
set_option maxRecDepth 100000 in
theorem x_X8_append (l : Launch) (dC : Nat → ClassId) (dI : Nat → Nat → Nat) (ad : Nat → Nat) (E : EP) (hEE : EC ad E) (A : Nat → Nat) (C : Nat → ClassId) (nb sz : Nat) (hN : XN A) (st : Nat → Nat → Int32) (sl : Nat → Nat → Int64) (so : Nat → XR) (va : Int32) (gt : Nat) (hI : XI st) (hgt : st 1 1 = nI gt) (hgt2 : gt + 4 ≤ 940) : Met l yX8_append wsX8_append ({ frames := 0, cells := 0, slots := 0, locals := 0 }) (va_Pc [.ref (A 1), .int va] (xPre E dC dI A C nb sz st sl so)) (va_Qv (fun (x : XT) => XG [2, 3, 4, 5, 6, 7, 8, 9, 10, 11, 12, 13, 15] st x.1 ∧ LGq sl x.2.1 ∧ x.2.2 = so ∧ (x.1 1 1 = nI (gt + 4) ∧ (∀ k, k < gt → x.1 2 k = st 2 k) ∧ (∀ j, j < 4 → x.1 2 (gt + j) = sbt (wby va j)))) (xB dC dI A C nb) (XA A sz)) 0 0 (XA A sz) := by
  refine Met.ofW (cc := cX8_append) (maxL := 3) (ret := none) (by decide) rfl ?_
  intro p e s m args below meth c s₁ B hml hv
  obtain ⟨rfl, hsz, hP, hK, hE⟩ := hv
  have hx := B.exec
  have hb := B.bytes
  have hr := B.returns
  have hts := atoms_spec (ws := wsX8_append) B.pre
  have hown : s.vm.findClass RX8 = some m.cls := findClass_of_methodNamed B.named
  subst hsz
  have hEv := hEE.1 _ _ _ hE
  have hS : va_S (XA A s.heap.size) s.heap s.heap [] := va_S.rf
  have hG : XG [2, 3, 4, 5, 6, 7, 8, 9, 10, 11, 12, 13, 15] st st := XG.rf hI
  have hl := lv_entry ([.ref (A 1), .int va]) (n := 3) (Nat.le_of_ble_eq_true rfl)
  rw [lg_entry_eq]
  generalize (lg_sl ([.ref (A 1), .int va]) ++ List.replicate (3 - (lg_sl ([.ref (A 1), .int va])).length) Slot.unset).toArray = ls at hl ⊢
  have hl : lv_has ls 3 [(0, .ref (A 1)), (1, .int va)] := hl
  have hL : LGq sl sl := LGq.rf
  refine lv_bipush (v := 24) hx hb dX8_append_0 (by decide) ?_
  refine lv_istore_n (lv' := [(2, .int 24), (0, .ref (A 1)), (1, .int va)]) hx hb dX8_append_2 rfl hl (by decide) rfl (fun ls hl => ?_)
  refine lv_iload_n hx hb dX8_append_3 rfl (lv_at hl 0 rfl) ?_
  refine lv_if_lt (tgt := 46) hx hb dX8_append_4 (by decide) (fun cc => absurd cc (by decide)) (fun _ => ?_)
  refine lv_aload_n hx hb dX8_append_7 rfl (lv_at hl 1 rfl) ?_
  refine va_get (D := (dC, dI)) (ci := 9) (v := .int (st 1 1)) (C := RX8) (T := TX8) (N := 15) hx hb hts ii_X8_append_X8 hown hK hP 1 (xw_is (r := 1) (by omega) (xc_fix (r := 1) (by omega))) rfl 1 (by decide) (hts _ mm_X8_append_1) (fun _ hh => hh) rfl dX8_append_8 ?_
  refine zz_top (v := (nI gt)) (by show st 1 1 = _; rw [hgt]) ?_
  refine lv_sipush (v := 940) hx hb dX8_append_11 (by decide) ?_
  refine lv_icmp_ge (tgt := 46) hx hb dX8_append_14 (by decide) (fun cc => absurd ((nI_leI (a := 940) (b := gt) (by omega) (by omega)).mp cc) (by omega)) (fun _ => ?_)
  refine lv_aload_n hx hb dX8_append_17 rfl (lv_at hl 1 rfl) ?_
  refine va_get (D := (dC, dI)) (ci := 9) (v := .ref (A 2)) (C := RX8) (T := TX8) (N := 15) hx hb hts ii_X8_append_X8 hown hK hP 1 (xw_is (r := 1) (by omega) (xc_fix (r := 1) (by omega))) rfl 0 (by decide) (hts _ mm_X8_append_2) (fun _ hh => hh) rfl dX8_append_18 ?_
  refine lv_aload_n hx hb dX8_append_21 rfl (lv_at hl 1 rfl) ?_
  refine va_get (D := (dC, dI)) (ci := 9) (v := .int (st 1 1)) (C := RX8) (T := TX8) (N := 15) hx hb hts ii_X8_append_X8 hown hK hP 1 (xw_is (r := 1) (by omega) (xc_fix (r := 1) (by omega))) rfl 1 (by decide) (hts _ mm_X8_append_1) (fun _ hh => hh) rfl dX8_append_22 ?_
  refine zz_top (v := (nI gt)) (by show st 1 1 = _; rw [hgt]) ?_
  refine lv_iload_n hx hb dX8_append_25 rfl (lv_at hl 2 rfl) ?_
  refine lv_iload_n hx hb dX8_append_26 rfl (lv_at hl 0 rfl) ?_
  refine lv_iushr hx hb dX8_append_27 rfl ?_
  refine lv_topi (fun z1 ez1 => ?_)
  refine lv_i2b hx hb dX8_append_28 rfl ?_
  refine lv_topi (fun z2 ez2 => ?_)
  refine va_bast hx hb hK hP (xD hN _ _ _ _ _ _) hS 2 2 (xw_is (r := 2) (by omega) (xc_fix (r := 2) (by omega))) (xt_is (r := 2) (by omega) rfl) (i := (nI gt)) (vp_in_nI (by omega) (by decide)) dX8_append_29 (fun H locs hP _ hS => ?_)
  rw [nI_clamp (by omega)] at hP
  obtain ⟨z3, ez3⟩ : ∃ y : Int32, y = vp_nar .byte z2 := ⟨_, rfl⟩
  rw [← ez3] at hP
  have hP : va_P (dC, dI) vwCl (xw A C nb (up2 st 2 gt z3) sl so) H := by rw [← xset (r := 2) (k := gt) (v := z3) (xc_fix (r := 2) (by omega))]; exact hP
  obtain ⟨st4, est4⟩ : ∃ y, y = up2 st 2 gt z3 := ⟨_, rfl⟩
  have hG : XG [2, 3, 4, 5, 6, 7, 8, 9, 10, 11, 12, 13, 15] st st4 := by rw [est4]; exact hG.up (xz (r := 2) (k := gt) (by unfold xrg; rfl : xrg 2 gt = 0)) (xpn (c := 14) (by unfold xcl; rfl : xcl 2 gt = 14) (by decide))
  rw [← est4] at hP
  refine lv_aload_n hx hb dX8_append_30 rfl (lv_at hl 1 rfl) ?_
  refine lv_dup hx hb dX8_append_31 rfl ?_
  refine va_get (D := (dC, dI)) (ci := 9) (v := .int (st4 1 1)) (C := RX8) (T := TX8) (N := 15) hx hb hts ii_X8_append_X8 hown hK hP 1 (xw_is (r := 1) (by omega) (xc_fix (r := 1) (by omega))) rfl 1 (by decide) (hts _ mm_X8_append_1) (fun _ hh => hh) rfl dX8_append_32 ?_
  refine zz_top (v := (nI gt)) (by show st4 1 1 = _; rw [est4, up2_ne (r := 2) (k := gt) (a := 1) (j := 1) _ _ (by omega), hgt]) ?_
  refine lv_iconst (v := 1) hx hb dX8_append_35 (by decide) ?_
  refine lv_iadd hx hb dX8_append_36 ?_
  refine zz_top (v := nI (gt + 1)) (nI_add gt 1) ?_
  refine va_put (D := (dC, dI)) (ci := 9) (v := .int (nI (gt + 1))) (ty := .int) (C := RX8) (T := TX8) (N := 15) hx hb hts ii_X8_append_X8 tyX8 tyX8_ok nmX8 hown hK hP (xD hN _ _ _ _ _ _) hS 1 (xw_is (r := 1) (by omega) (xc_fix (r := 1) (by omega))) rfl 1 (by decide) (hts _ mm_X8_append_1) (fun _ hh => hh) rfl (by decide +kernel) rfl rfl (Nat.le_of_ble_eq_true rfl) dX8_append_37 (fun H locs hP _ hS => ?_)
  have hP : va_P (dC, dI) vwCl (xw A C nb (up2 st4 1 1 (nI (gt + 1))) sl so) H := by rw [← xset (r := 1) (k := 1) (v := (nI (gt + 1))) (xc_fix (r := 1) (by omega))]; exact hP
  obtain ⟨st5, est5⟩ : ∃ y, y = up2 st4 1 1 (nI (gt + 1)) := ⟨_, rfl⟩
  have hG : XG [2, 3, 4, 5, 6, 7, 8, 9, 10, 11, 12, 13, 15] st st5 := by rw [est5]; exact hG.up (xn (n := (gt + 1)) (b := 941) (by decide : xrg 1 1 = 941) (by omega)) (xpn (c := 1) (by decide : xcl 1 1 = 1) (by decide))
  rw [← est5] at hP
  refine lv_iinc (v := 16) (lv' := [(2, .int 16), (0, .ref (A 1)), (1, .int va)]) hx hb dX8_append_40 hl (k := 0) rfl (by decide) (by decide) rfl (fun ls hl => ?_)
  refine lv_goto (tgt := 3) hx hb dX8_append_43 (by decide) ?_
  refine lv_iload_n hx hb dX8_append_3 rfl (lv_at hl 0 rfl) ?_
  refine lv_if_lt (tgt := 46) hx hb dX8_append_4 (by decide) (fun cc => absurd cc (by decide)) (fun _ => ?_)
  refine lv_aload_n hx hb dX8_append_7 rfl (lv_at hl 1 rfl) ?_
  refine va_get (D := (dC, dI)) (ci := 9) (v := .int (st5 1 1)) (C := RX8) (T := TX8) (N := 15) hx hb hts ii_X8_append_X8 hown hK hP 1 (xw_is (r := 1) (by omega) (xc_fix (r := 1) (by omega))) rfl 1 (by decide) (hts _ mm_X8_append_1) (fun _ hh => hh) rfl dX8_append_8 ?_
  refine zz_top (v := (nI (gt + 1))) (by show st5 1 1 = _; rw [est5, up2_same]) ?_
  refine lv_sipush (v := 940) hx hb dX8_append_11 (by decide) ?_
  refine lv_icmp_ge (tgt := 46) hx hb dX8_append_14 (by decide) (fun cc => absurd ((nI_leI (a := 940) (b := (gt + 1)) (by omega) (by omega)).mp cc) (by omega)) (fun _ => ?_)
  refine lv_aload_n hx hb dX8_append_17 rfl (lv_at hl 1 rfl) ?_
  refine va_get (D := (dC, dI)) (ci := 9) (v := .ref (A 2)) (C := RX8) (T := TX8) (N := 15) hx hb hts ii_X8_append_X8 hown hK hP 1 (xw_is (r := 1) (by omega) (xc_fix (r := 1) (by omega))) rfl 0 (by decide) (hts _ mm_X8_append_2) (fun _ hh => hh) rfl dX8_append_18 ?_
  refine lv_aload_n hx hb dX8_append_21 rfl (lv_at hl 1 rfl) ?_
  refine va_get (D := (dC, dI)) (ci := 9) (v := .int (st5 1 1)) (C := RX8) (T := TX8) (N := 15) hx hb hts ii_X8_append_X8 hown hK hP 1 (xw_is (r := 1) (by omega) (xc_fix (r := 1) (by omega))) rfl 1 (by decide) (hts _ mm_X8_append_1) (fun _ hh => hh) rfl dX8_append_22 ?_
  refine zz_top (v := (nI (gt + 1))) (by show st5 1 1 = _; rw [est5, up2_same]) ?_
  refine lv_iload_n hx hb dX8_append_25 rfl (lv_at hl 2 rfl) ?_
  refine lv_iload_n hx hb dX8_append_26 rfl (lv_at hl 0 rfl) ?_
  refine lv_iushr hx hb dX8_append_27 rfl ?_
  refine lv_topi (fun z6 ez6 => ?_)
  refine lv_i2b hx hb dX8_append_28 rfl ?_
  refine lv_topi (fun z7 ez7 => ?_)
  refine va_bast hx hb hK hP (xD hN _ _ _ _ _ _) hS 2 2 (xw_is (r := 2) (by omega) (xc_fix (r := 2) (by omega))) (xt_is (r := 2) (by omega) rfl) (i := (nI (gt + 1))) (vp_in_nI (by omega) (by decide)) dX8_append_29 (fun H locs hP _ hS => ?_)
  rw [nI_clamp (by omega)] at hP
  obtain ⟨z8, ez8⟩ : ∃ y : Int32, y = vp_nar .byte z7 := ⟨_, rfl⟩
  rw [← ez8] at hP
  have hP : va_P (dC, dI) vwCl (xw A C nb (up2 st5 2 (gt + 1) z8) sl so) H := by rw [← xset (r := 2) (k := (gt + 1)) (v := z8) (xc_fix (r := 2) (by omega))]; exact hP
  obtain ⟨st9, est9⟩ : ∃ y, y = up2 st5 2 (gt + 1) z8 := ⟨_, rfl⟩
  have hG : XG [2, 3, 4, 5, 6, 7, 8, 9, 10, 11, 12, 13, 15] st st9 := by rw [est9]; exact hG.up (xz (r := 2) (k := (gt + 1)) (by unfold xrg; rfl : xrg 2 (gt + 1) = 0)) (xpn (c := 14) (by unfold xcl; rfl : xcl 2 (gt + 1) = 14) (by decide))
  rw [← est9] at hP
  refine lv_aload_n hx hb dX8_append_30 rfl (lv_at hl 1 rfl) ?_
  refine lv_dup hx hb dX8_append_31 rfl ?_
  refine va_get (D := (dC, dI)) (ci := 9) (v := .int (st9 1 1)) (C := RX8) (T := TX8) (N := 15) hx hb hts ii_X8_append_X8 hown hK hP 1 (xw_is (r := 1) (by omega) (xc_fix (r := 1) (by omega))) rfl 1 (by decide) (hts _ mm_X8_append_1) (fun _ hh => hh) rfl dX8_append_32 ?_
  refine zz_top (v := (nI (gt + 1))) (by show st9 1 1 = _; rw [est9, up2_ne (r := 2) (k := (gt + 1)) (a := 1) (j := 1) _ _ (by omega), est5, up2_same]) ?_
  refine lv_iconst (v := 1) hx hb dX8_append_35 (by decide) ?_
  refine lv_iadd hx hb dX8_append_36 ?_
  refine zz_top (v := nI ((gt + 1) + 1)) (nI_add (gt + 1) 1) ?_
  refine va_put (D := (dC, dI)) (ci := 9) (v := .int (nI ((gt + 1) + 1))) (ty := .int) (C := RX8) (T := TX8) (N := 15) hx hb hts ii_X8_append_X8 tyX8 tyX8_ok nmX8 hown hK hP (xD hN _ _ _ _ _ _) hS 1 (xw_is (r := 1) (by omega) (xc_fix (r := 1) (by omega))) rfl 1 (by decide) (hts _ mm_X8_append_1) (fun _ hh => hh) rfl (by decide +kernel) rfl rfl (Nat.le_of_ble_eq_true rfl) dX8_append_37 (fun H locs hP _ hS => ?_)
  have hP : va_P (dC, dI) vwCl (xw A C nb (up2 st9 1 1 (nI ((gt + 1) + 1))) sl so) H := by rw [← xset (r := 1) (k := 1) (v := (nI ((gt + 1) + 1))) (xc_fix (r := 1) (by omega))]; exact hP
  obtain ⟨st10, est10⟩ : ∃ y, y = up2 st9 1 1 (nI ((gt + 1) + 1)) := ⟨_, rfl⟩
  have hG : XG [2, 3, 4, 5, 6, 7, 8, 9, 10, 11, 12, 13, 15] st st10 := by rw [est10]; exact hG.up (xn (n := ((gt + 1) + 1)) (b := 941) (by decide : xrg 1 1 = 941) (by omega)) (xpn (c := 1) (by decide : xcl 1 1 = 1) (by decide))
  rw [← est10] at hP
  refine lv_iinc (v := 8) (lv' := [(2, .int 8), (0, .ref (A 1)), (1, .int va)]) hx hb dX8_append_40 hl (k := 0) rfl (by decide) (by decide) rfl (fun ls hl => ?_)
  refine lv_goto (tgt := 3) hx hb dX8_append_43 (by decide) ?_
  refine lv_iload_n hx hb dX8_append_3 rfl (lv_at hl 0 rfl) ?_
  refine lv_if_lt (tgt := 46) hx hb dX8_append_4 (by decide) (fun cc => absurd cc (by decide)) (fun _ => ?_)
  refine lv_aload_n hx hb dX8_append_7 rfl (lv_at hl 1 rfl) ?_
  refine va_get (D := (dC, dI)) (ci := 9) (v := .int (st10 1 1)) (C := RX8) (T := TX8) (N := 15) hx hb hts ii_X8_append_X8 hown hK hP 1 (xw_is (r := 1) (by omega) (xc_fix (r := 1) (by omega))) rfl 1 (by decide) (hts _ mm_X8_append_1) (fun _ hh => hh) rfl dX8_append_8 ?_
  refine zz_top (v := (nI ((gt + 1) + 1))) (by show st10 1 1 = _; rw [est10, up2_same]) ?_
  refine lv_sipush (v := 940) hx hb dX8_append_11 (by decide) ?_
  refine lv_icmp_ge (tgt := 46) hx hb dX8_append_14 (by decide) (fun cc => absurd ((nI_leI (a := 940) (b := ((gt + 1) + 1)) (by omega) (by omega)).mp cc) (by omega)) (fun _ => ?_)
  refine lv_aload_n hx hb dX8_append_17 rfl (lv_at hl 1 rfl) ?_
  refine va_get (D := (dC, dI)) (ci := 9) (v := .ref (A 2)) (C := RX8) (T := TX8) (N := 15) hx hb hts ii_X8_append_X8 hown hK hP 1 (xw_is (r := 1) (by omega) (xc_fix (r := 1) (by omega))) rfl 0 (by decide) (hts _ mm_X8_append_2) (fun _ hh => hh) rfl dX8_append_18 ?_
  refine lv_aload_n hx hb dX8_append_21 rfl (lv_at hl 1 rfl) ?_
  refine va_get (D := (dC, dI)) (ci := 9) (v := .int (st10 1 1)) (C := RX8) (T := TX8) (N := 15) hx hb hts ii_X8_append_X8 hown hK hP 1 (xw_is (r := 1) (by omega) (xc_fix (r := 1) (by omega))) rfl 1 (by decide) (hts _ mm_X8_append_1) (fun _ hh => hh) rfl dX8_append_22 ?_
  refine zz_top (v := (nI ((gt + 1) + 1))) (by show st10 1 1 = _; rw [est10, up2_same]) ?_
  refine lv_iload_n hx hb dX8_append_25 rfl (lv_at hl 2 rfl) ?_
  refine lv_iload_n hx hb dX8_append_26 rfl (lv_at hl 0 rfl) ?_
  refine lv_iushr hx hb dX8_append_27 rfl ?_
  refine lv_topi (fun z11 ez11 => ?_)
  refine lv_i2b hx hb dX8_append_28 rfl ?_
  refine lv_topi (fun z12 ez12 => ?_)
  refine va_bast hx hb hK hP (xD hN _ _ _ _ _ _) hS 2 2 (xw_is (r := 2) (by omega) (xc_fix (r := 2) (by omega))) (xt_is (r := 2) (by omega) rfl) (i := (nI ((gt + 1) + 1))) (vp_in_nI (by omega) (by decide)) dX8_append_29 (fun H locs hP _ hS => ?_)
  rw [nI_clamp (by omega)] at hP
  obtain ⟨z13, ez13⟩ : ∃ y : Int32, y = vp_nar .byte z12 := ⟨_, rfl⟩
  rw [← ez13] at hP
  have hP : va_P (dC, dI) vwCl (xw A C nb (up2 st10 2 ((gt + 1) + 1) z13) sl so) H := by rw [← xset (r := 2) (k := ((gt + 1) + 1)) (v := z13) (xc_fix (r := 2) (by omega))]; exact hP
  obtain ⟨st14, est14⟩ : ∃ y, y = up2 st10 2 ((gt + 1) + 1) z13 := ⟨_, rfl⟩
  have hG : XG [2, 3, 4, 5, 6, 7, 8, 9, 10, 11, 12, 13, 15] st st14 := by rw [est14]; exact hG.up (xz (r := 2) (k := ((gt + 1) + 1)) (by unfold xrg; rfl : xrg 2 ((gt + 1) + 1) = 0)) (xpn (c := 14) (by unfold xcl; rfl : xcl 2 ((gt + 1) + 1) = 14) (by decide))
  rw [← est14] at hP
  refine lv_aload_n hx hb dX8_append_30 rfl (lv_at hl 1 rfl) ?_
  refine lv_dup hx hb dX8_append_31 rfl ?_
  refine va_get (D := (dC, dI)) (ci := 9) (v := .int (st14 1 1)) (C := RX8) (T := TX8) (N := 15) hx hb hts ii_X8_append_X8 hown hK hP 1 (xw_is (r := 1) (by omega) (xc_fix (r := 1) (by omega))) rfl 1 (by decide) (hts _ mm_X8_append_1) (fun _ hh => hh) rfl dX8_append_32 ?_
  refine zz_top (v := (nI ((gt + 1) + 1))) (by show st14 1 1 = _; rw [est14, up2_ne (r := 2) (k := ((gt + 1) + 1)) (a := 1) (j := 1) _ _ (by omega), est10, up2_same]) ?_
  refine lv_iconst (v := 1) hx hb dX8_append_35 (by decide) ?_
  refine lv_iadd hx hb dX8_append_36 ?_
  refine zz_top (v := nI (((gt + 1) + 1) + 1)) (nI_add ((gt + 1) + 1) 1) ?_
  refine va_put (D := (dC, dI)) (ci := 9) (v := .int (nI (((gt + 1) + 1) + 1))) (ty := .int) (C := RX8) (T := TX8) (N := 15) hx hb hts ii_X8_append_X8 tyX8 tyX8_ok nmX8 hown hK hP (xD hN _ _ _ _ _ _) hS 1 (xw_is (r := 1) (by omega) (xc_fix (r := 1) (by omega))) rfl 1 (by decide) (hts _ mm_X8_append_1) (fun _ hh => hh) rfl (by decide +kernel) rfl rfl (Nat.le_of_ble_eq_true rfl) dX8_append_37 (fun H locs hP _ hS => ?_)
  have hP : va_P (dC, dI) vwCl (xw A C nb (up2 st14 1 1 (nI (((gt + 1) + 1) + 1))) sl so) H := by rw [← xset (r := 1) (k := 1) (v := (nI (((gt + 1) + 1) + 1))) (xc_fix (r := 1) (by omega))]; exact hP
  obtain ⟨st15, est15⟩ : ∃ y, y = up2 st14 1 1 (nI (((gt + 1) + 1) + 1)) := ⟨_, rfl⟩
  have hG : XG [2, 3, 4, 5, 6, 7, 8, 9, 10, 11, 12, 13, 15] st st15 := by rw [est15]; exact hG.up (xn (n := (((gt + 1) + 1) + 1)) (b := 941) (by decide : xrg 1 1 = 941) (by omega)) (xpn (c := 1) (by decide : xcl 1 1 = 1) (by decide))
  rw [← est15] at hP
  refine lv_iinc (v := 0) (lv' := [(2, .int 0), (0, .ref (A 1)), (1, .int va)]) hx hb dX8_append_40 hl (k := 0) rfl (by decide) (by decide) rfl (fun ls hl => ?_)
  refine lv_goto (tgt := 3) hx hb dX8_append_43 (by decide) ?_
  refine lv_iload_n hx hb dX8_append_3 rfl (lv_at hl 0 rfl) ?_
  refine lv_if_lt (tgt := 46) hx hb dX8_append_4 (by decide) (fun cc => absurd cc (by decide)) (fun _ => ?_)
  refine lv_aload_n hx hb dX8_append_7 rfl (lv_at hl 1 rfl) ?_
  refine va_get (D := (dC, dI)) (ci := 9) (v := .int (st15 1 1)) (C := RX8) (T := TX8) (N := 15) hx hb hts ii_X8_append_X8 hown hK hP 1 (xw_is (r := 1) (by omega) (xc_fix (r := 1) (by omega))) rfl 1 (by decide) (hts _ mm_X8_append_1) (fun _ hh => hh) rfl dX8_append_8 ?_
  refine zz_top (v := (nI (((gt + 1) + 1) + 1))) (by show st15 1 1 = _; rw [est15, up2_same]) ?_
  refine lv_sipush (v := 940) hx hb dX8_append_11 (by decide) ?_
  refine lv_icmp_ge (tgt := 46) hx hb dX8_append_14 (by decide) (fun cc => absurd ((nI_leI (a := 940) (b := (((gt + 1) + 1) + 1)) (by omega) (by omega)).mp cc) (by omega)) (fun _ => ?_)
  refine lv_aload_n hx hb dX8_append_17 rfl (lv_at hl 1 rfl) ?_
  refine va_get (D := (dC, dI)) (ci := 9) (v := .ref (A 2)) (C := RX8) (T := TX8) (N := 15) hx hb hts ii_X8_append_X8 hown hK hP 1 (xw_is (r := 1) (by omega) (xc_fix (r := 1) (by omega))) rfl 0 (by decide) (hts _ mm_X8_append_2) (fun _ hh => hh) rfl dX8_append_18 ?_
  refine lv_aload_n hx hb dX8_append_21 rfl (lv_at hl 1 rfl) ?_
  refine va_get (D := (dC, dI)) (ci := 9) (v := .int (st15 1 1)) (C := RX8) (T := TX8) (N := 15) hx hb hts ii_X8_append_X8 hown hK hP 1 (xw_is (r := 1) (by omega) (xc_fix (r := 1) (by omega))) rfl 1 (by decide) (hts _ mm_X8_append_1) (fun _ hh => hh) rfl dX8_append_22 ?_
  refine zz_top (v := (nI (((gt + 1) + 1) + 1))) (by show st15 1 1 = _; rw [est15, up2_same]) ?_
  refine lv_iload_n hx hb dX8_append_25 rfl (lv_at hl 2 rfl) ?_
  refine lv_iload_n hx hb dX8_append_26 rfl (lv_at hl 0 rfl) ?_
  refine lv_iushr hx hb dX8_append_27 rfl ?_
  refine lv_topi (fun z16 ez16 => ?_)
  refine lv_i2b hx hb dX8_append_28 rfl ?_
  refine lv_topi (fun z17 ez17 => ?_)
  refine va_bast hx hb hK hP (xD hN _ _ _ _ _ _) hS 2 2 (xw_is (r := 2) (by omega) (xc_fix (r := 2) (by omega))) (xt_is (r := 2) (by omega) rfl) (i := (nI (((gt + 1) + 1) + 1))) (vp_in_nI (by omega) (by decide)) dX8_append_29 (fun H locs hP _ hS => ?_)
  rw [nI_clamp (by omega)] at hP
  obtain ⟨z18, ez18⟩ : ∃ y : Int32, y = vp_nar .byte z17 := ⟨_, rfl⟩
  rw [← ez18] at hP
  have hP : va_P (dC, dI) vwCl (xw A C nb (up2 st15 2 (((gt + 1) + 1) + 1) z18) sl so) H := by rw [← xset (r := 2) (k := (((gt + 1) + 1) + 1)) (v := z18) (xc_fix (r := 2) (by omega))]; exact hP
  obtain ⟨st19, est19⟩ : ∃ y, y = up2 st15 2 (((gt + 1) + 1) + 1) z18 := ⟨_, rfl⟩
  have hG : XG [2, 3, 4, 5, 6, 7, 8, 9, 10, 11, 12, 13, 15] st st19 := by rw [est19]; exact hG.up (xz (r := 2) (k := (((gt + 1) + 1) + 1)) (by unfold xrg; rfl : xrg 2 (((gt + 1) + 1) + 1) = 0)) (xpn (c := 14) (by unfold xcl; rfl : xcl 2 (((gt + 1) + 1) + 1) = 14) (by decide))
  rw [← est19] at hP
  refine lv_aload_n hx hb dX8_append_30 rfl (lv_at hl 1 rfl) ?_
  refine lv_dup hx hb dX8_append_31 rfl ?_
  refine va_get (D := (dC, dI)) (ci := 9) (v := .int (st19 1 1)) (C := RX8) (T := TX8) (N := 15) hx hb hts ii_X8_append_X8 hown hK hP 1 (xw_is (r := 1) (by omega) (xc_fix (r := 1) (by omega))) rfl 1 (by decide) (hts _ mm_X8_append_1) (fun _ hh => hh) rfl dX8_append_32 ?_
  refine zz_top (v := (nI (((gt + 1) + 1) + 1))) (by show st19 1 1 = _; rw [est19, up2_ne (r := 2) (k := (((gt + 1) + 1) + 1)) (a := 1) (j := 1) _ _ (by omega), est15, up2_same]) ?_
  refine lv_iconst (v := 1) hx hb dX8_append_35 (by decide) ?_
  refine lv_iadd hx hb dX8_append_36 ?_
  refine zz_top (v := nI ((((gt + 1) + 1) + 1) + 1)) (nI_add (((gt + 1) + 1) + 1) 1) ?_
  refine va_put (D := (dC, dI)) (ci := 9) (v := .int (nI ((((gt + 1) + 1) + 1) + 1))) (ty := .int) (C := RX8) (T := TX8) (N := 15) hx hb hts ii_X8_append_X8 tyX8 tyX8_ok nmX8 hown hK hP (xD hN _ _ _ _ _ _) hS 1 (xw_is (r := 1) (by omega) (xc_fix (r := 1) (by omega))) rfl 1 (by decide) (hts _ mm_X8_append_1) (fun _ hh => hh) rfl (by decide +kernel) rfl rfl (Nat.le_of_ble_eq_true rfl) dX8_append_37 (fun H locs hP _ hS => ?_)
  have hP : va_P (dC, dI) vwCl (xw A C nb (up2 st19 1 1 (nI ((((gt + 1) + 1) + 1) + 1))) sl so) H := by rw [← xset (r := 1) (k := 1) (v := (nI ((((gt + 1) + 1) + 1) + 1))) (xc_fix (r := 1) (by omega))]; exact hP
  obtain ⟨st20, est20⟩ : ∃ y, y = up2 st19 1 1 (nI ((((gt + 1) + 1) + 1) + 1)) := ⟨_, rfl⟩
  have hG : XG [2, 3, 4, 5, 6, 7, 8, 9, 10, 11, 12, 13, 15] st st20 := by rw [est20]; exact hG.up (xn (n := ((((gt + 1) + 1) + 1) + 1)) (b := 941) (by decide : xrg 1 1 = 941) (by omega)) (xpn (c := 1) (by decide : xcl 1 1 = 1) (by decide))
  rw [← est20] at hP
  refine lv_iinc (v := (-8)) (lv' := [(2, .int (-8)), (0, .ref (A 1)), (1, .int va)]) hx hb dX8_append_40 hl (k := 0) rfl (by decide) (by decide) rfl (fun ls hl => ?_)
  refine lv_goto (tgt := 3) hx hb dX8_append_43 (by decide) ?_
  refine lv_iload_n hx hb dX8_append_3 rfl (lv_at hl 0 rfl) ?_
  refine lv_if_lt (tgt := 46) hx hb dX8_append_4 (by decide) (fun _ => ?_) (fun cc => absurd (by decide) cc)
  have hA9 : ∀ j, j < gt → st20 2 j = st 2 j := fun j hj => by
    rw [est20, up2_ne (r := 1) (k := 1) (a := 2) (j := j) _ _ (by omega), est19, up2_ne (r := 2) (k := (((gt + 1) + 1) + 1)) (a := 2) (j := j) _ _ (by omega), est15, up2_ne (r := 1) (k := 1) (a := 2) (j := j) _ _ (by omega), est14, up2_ne (r := 2) (k := ((gt + 1) + 1)) (a := 2) (j := j) _ _ (by omega), est10, up2_ne (r := 1) (k := 1) (a := 2) (j := j) _ _ (by omega), est9, up2_ne (r := 2) (k := (gt + 1)) (a := 2) (j := j) _ _ (by omega), est5, up2_ne (r := 1) (k := 1) (a := 2) (j := j) _ _ (by omega), est4, up2_ne (r := 2) (k := gt) (a := 2) (j := j) _ _ (by omega)]
  have hB9 : ∀ j, j < 4 → st20 2 (gt + j) = sbt (wby va j) := fun j hj => by
    match j, hj with
    | 0, _ => show st20 2 gt = sbt (wby va 0); rw [est20, up2_ne (r := 1) (k := 1) (a := 2) (j := gt) _ _ (by omega), est19, up2_ne (r := 2) (k := (((gt + 1) + 1) + 1)) (a := 2) (j := gt) _ _ (by omega), est15, up2_ne (r := 1) (k := 1) (a := 2) (j := gt) _ _ (by omega), est14, up2_ne (r := 2) (k := ((gt + 1) + 1)) (a := 2) (j := gt) _ _ (by omega), est10, up2_ne (r := 1) (k := 1) (a := 2) (j := gt) _ _ (by omega), est9, up2_ne (r := 2) (k := (gt + 1)) (a := 2) (j := gt) _ _ (by omega), est5, up2_ne (r := 1) (k := 1) (a := 2) (j := gt) _ _ (by omega), est4, up2_same, ez3, ez2, ez1]; exact byn_b _
    | 1, _ => show st20 2 (gt + 1) = sbt (wby va 1); rw [est20, up2_ne (r := 1) (k := 1) (a := 2) (j := (gt + 1)) _ _ (by omega), est19, up2_ne (r := 2) (k := (((gt + 1) + 1) + 1)) (a := 2) (j := (gt + 1)) _ _ (by omega), est15, up2_ne (r := 1) (k := 1) (a := 2) (j := (gt + 1)) _ _ (by omega), est14, up2_ne (r := 2) (k := ((gt + 1) + 1)) (a := 2) (j := (gt + 1)) _ _ (by omega), est10, up2_ne (r := 1) (k := 1) (a := 2) (j := (gt + 1)) _ _ (by omega), est9, up2_same, ez8, ez7, ez6]; exact byn_b _
    | 2, _ => show st20 2 ((gt + 1) + 1) = sbt (wby va 2); rw [est20, up2_ne (r := 1) (k := 1) (a := 2) (j := ((gt + 1) + 1)) _ _ (by omega), est19, up2_ne (r := 2) (k := (((gt + 1) + 1) + 1)) (a := 2) (j := ((gt + 1) + 1)) _ _ (by omega), est15, up2_ne (r := 1) (k := 1) (a := 2) (j := ((gt + 1) + 1)) _ _ (by omega), est14, up2_same, ez13, ez12, ez11]; exact byn_b _
    | 3, _ => show st20 2 (((gt + 1) + 1) + 1) = sbt (wby va 3); rw [est20, up2_ne (r := 1) (k := 1) (a := 2) (j := (((gt + 1) + 1) + 1)) _ _ (by omega), est19, up2_same, ez18, ez17, ez16]; exact byn_b _
    | j + 4, h9 => exact absurd h9 (by omega)
  exact W.vret hx hb hr (fun t ht hW => ⟨⟨(st20, sl, so), rfl, ⟨hG, hL, rfl, ⟨by show st20 1 1 = _; rw [est20, up2_same], hA9, hB9⟩⟩, xB.of ht hP⟩, hS.F ht⟩) hS.2.2 dX8_append_46
