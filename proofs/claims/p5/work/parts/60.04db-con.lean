set_option maxHeartbeats 4000000 in
set_option maxRecDepth 100000 in
theorem x_X5_readSign (l : Launch) (dC : Nat → ClassId) (dI : Nat → Nat → Nat) (ad : Nat → Nat) (E : EP) (hEE : EC ad E) (A : Nat → Nat) (C : Nat → ClassId) (nb sz : Nat) (hN : XN A) (st : Nat → Nat → Int32) (sl : Nat → Nat → Int64) (so : Nat → XR) (hI : XI st) (hOI : OI ad so) : Met l yX5_readSign wsX5_readSign ({ frames := 7, cells := 0, slots := 0, locals := 152 }) (va_Pc [.ref (A 3), .ref (A 1), .ref (A (36 + 20 * 1))] (xPre E dC dI A C nb sz st sl so)) (va_Qi (fun (r : Int32) (x : XT) => XG [1, 2, 3, 4, 5, 6, 8, 9, 12, 13, 14, 15] st x.1 ∧ OG ad [2, 3, 4] so x.2.2 ∧ ((r = 1) ∨ (r = 0 ∧ ¬ x.1 1 13 = 0))) (xB dC dI A C nb) (XA A sz)) 0 0 (XA A sz) := by
  refine Met.ofW (cc := cX5_readSign) (maxL := 3) (ret := (some .boolean)) (by decide) rfl ?_
  intro p e s m args below meth c s₁ B hml hv
  obtain ⟨rfl, hsz, hP, hK, hE⟩ := hv
  have hx := B.exec
  have hb := B.bytes
  have hr := B.returns
  have hts := atoms_spec (ws := wsX5_readSign) B.pre
  have hown : s.vm.findClass RX5 = some m.cls := findClass_of_methodNamed B.named
  subst hsz
  have hEv := hEE.1 _ _ _ hE
  have hS : va_S (XA A s.heap.size) s.heap s.heap [] := va_S.rf
  have hG : XG [1, 2, 3, 4, 5, 6, 8, 9, 12, 13, 14, 15] st st := XG.rf hI
  have hO : OG ad [2, 3, 4] so so := OG.rf hOI
  have hl := lv_entry ([.ref (A 3), .ref (A 1), .ref (A (36 + 20 * 1))]) (n := 3) (Nat.le_of_ble_eq_true rfl)
  rw [lg_entry_eq]
  generalize (lg_sl ([.ref (A 3), .ref (A 1), .ref (A (36 + 20 * 1))]) ++ List.replicate (3 - (lg_sl ([.ref (A 3), .ref (A 1), .ref (A (36 + 20 * 1))])).length) Slot.unset).toArray = ls at hl ⊢
  have hl : lv_has ls 3 [(0, .ref (A 3)), (1, .ref (A 1)), (2, .ref (A (36 + 20 * 1)))] := hl
  refine lv_aload_n hx hb dX5_readSign_0 rfl (lv_at hl 0 rfl) ?_
  refine va_get (D := (dC, dI)) (ci := 6) (v := .int (st 3 1)) (C := RX5) (T := TX5) (N := 2) hx hb hts ii_X5_readSign_X5 hown hK hP 3 (xw_is (r := 3) (by omega) (xc_fix (r := 3) (by omega))) rfl 1 (by decide) (hts _ mm_X5_readSign_1) (fun _ hh => hh) rfl dX5_readSign_1 ?_
  obtain ⟨z1, ez1⟩ : ∃ y : Int32, st 3 1 = y := ⟨_, rfl⟩
  refine zz_top (v := z1) (by exact ez1) ?_
  refine lv_if_eq (tgt := 13) hx hb dX5_readSign_4 (by decide) (fun c1 => ?_) (fun c1 => ?_)
  · refine lv_aload_n hx hb dX5_readSign_13 rfl (lv_at hl 0 rfl) ?_
    refine lv_iconst (v := 1) hx hb dX5_readSign_14 (by decide) ?_
    refine va_put (D := (dC, dI)) (ci := 6) (v := .int 1) (ty := .boolean) (C := RX5) (T := TX5) (N := 2) hx hb hts ii_X5_readSign_X5 tyX5 tyX5_ok nmX5 hown hK hP (xD hN _ _ _ _ _ _) hS 3 (xw_is (r := 3) (by omega) (xc_fix (r := 3) (by omega))) rfl 1 (by decide) (hts _ mm_X5_readSign_1) (fun _ hh => hh) rfl (by decide +kernel) rfl rfl (Nat.le_of_ble_eq_true rfl) dX5_readSign_15 (fun H locs hP _ hS => ?_)
    have hP : va_P (dC, dI) vwCl (xw A C nb (up2 st 3 1 1) sl so) H := by rw [← xset (r := 3) (k := 1) (v := 1) (xc_fix (r := 3) (by omega))]; exact hP
    obtain ⟨st2, est2⟩ : ∃ y, y = up2 st 3 1 1 := ⟨_, rfl⟩
    have hG : XG [1, 2, 3, 4, 5, 6, 8, 9, 12, 13, 14, 15] st st2 := by rw [est2]; exact hG.up (xz (r := 3) (k := 1) (by decide : xrg 3 1 = 0)) (xpn (c := 0) (by decide : xcl 3 1 = 0) (by decide))
    rw [← est2] at hP
    refine lv_aload_n hx hb dX5_readSign_18 rfl (lv_at hl 1 rfl) ?_
    refine va_callv (va_runV (As := []) (rest := []) ⟨hx, hb, hml, hown, hts⟩ (x_X8_step l dC dI ad E hEE A C nb _ hN st2 sl so  hG.1 hO.1) (cwV 0 hts gX5_readSign_X8_step rfl rfl rfl (by decide +kernel) ⟨Nat.le_of_ble_eq_true rfl, Nat.le_of_ble_eq_true rfl⟩) ⟨fun a U g mk q => ⟨q.1, xPre.blind hEE q.2⟩, va_recv hK hP (ci := 9) (q0 := 1) rfl (xw_is (r := 1) (by omega) (xc_fix (r := 1) (by omega))), fun U hU hW => ⟨rfl, xPre.of hEE hP hK hE hS hU hW⟩⟩ rfl rfl hl.1 rfl (lv_room (Nat.le_of_ble_eq_true rfl)) dX5_readSign_19 ⟨Nat.le_of_ble_eq_true rfl, Nat.le_of_ble_eq_true rfl⟩) hS (fun q _ h => XA.le hS.1 q h) (XA.le hS.1) (fun x t H locs ht hvm hw hB _ _ hS => ?_)
    have hP := xB.at ht hB
    clear hB ht hvm
    obtain ⟨st4, sl5, so6⟩ := x
    obtain ⟨hGst4, hLGst4, hOst4, hw⟩ := hw
    dsimp only at hGst4 hLGst4 hOst4 hw
    have hO : OG ad [2, 3, 4] so so6 := hO.tr hOst4 (by decide)
    have hP : va_P (dC, dI) vwCl (xw A C nb st4 sl5 so6) _ := hP
    have hG : XG [1, 2, 3, 4, 5, 6, 8, 9, 12, 13, 14, 15] st st4 := hG.tr hGst4 (by decide)
    clear hw
    refine lv_aload_n hx hb dX5_readSign_22 rfl (lv_at hl 1 rfl) ?_
    refine lv_iconst (v := 0) hx hb dX5_readSign_23 (by decide) ?_
    refine lv_bipush (v := 12) hx hb dX5_readSign_24 (by decide) ?_
    refine va_calli (va_runV (As := [.int 0, .int 12]) (rest := []) ⟨hx, hb, hml, hown, hts⟩ (x_X8_takeNumber l dC dI ad E hEE A C nb _ hN st4 sl5 so6 0 12  hG.1 hO.1) (cwV 2 hts gX5_readSign_X8_takeNumber rfl rfl rfl (by decide +kernel) ⟨Nat.le_of_ble_eq_true rfl, Nat.le_of_ble_eq_true rfl⟩) ⟨fun a U g mk q => ⟨q.1, xPre.blind hEE q.2⟩, va_recv hK hP (ci := 9) (q0 := 1) rfl (xw_is (r := 1) (by omega) (xc_fix (r := 1) (by omega))), fun U hU hW => ⟨rfl, xPre.of hEE hP hK hE hS hU hW⟩⟩ rfl rfl hl.1 rfl (lv_room (Nat.le_of_ble_eq_true rfl)) dX5_readSign_26 ⟨Nat.le_of_ble_eq_true rfl, Nat.le_of_ble_eq_true rfl⟩) hS (fun q _ h => XA.le hS.1 q h) (XA.le hS.1) (fun r7 x t H locs ht hvm hw hB _ _ hS => ?_)
    have hP := xB.at ht hB
    clear hB ht hvm
    obtain ⟨st8, sl9, so10⟩ := x
    obtain ⟨hGst8, hLGst8, hOst8, hw⟩ := hw
    dsimp only at hGst8 hLGst8 hOst8 hw
    have hO : OG ad [2, 3, 4] so so10 := hO.tr hOst8 (by decide)
    have hP : va_P (dC, dI) vwCl (xw A C nb st8 sl9 so10) _ := hP
    have hG : XG [1, 2, 3, 4, 5, 6, 8, 9, 12, 13, 14, 15] st st8 := hG.tr hGst8 (by decide)
    rcases hw with rfl | ⟨rfl, hf11⟩
    · refine lv_if_ne (tgt := 34) hx hb dX5_readSign_29 (by decide) (fun _ => ?_) (fun cc => absurd cc (by decide))
      refine lv_aload_n hx hb dX5_readSign_34 rfl (lv_at hl 2 rfl) ?_
      refine lv_aload_n hx hb dX5_readSign_35 rfl (lv_at hl 1 rfl) ?_
      refine va_getN (host := "OffTheLead") (D := (dC, dI)) (ci := 9) (v := .int (st8 1 9)) (C := RX8) (T := TX8) (N := 15) hx hb hts ii_X5_readSign_X8 hown hK hP 1 (xw_is (r := 1) (by omega) (xc_fix (r := 1) (by omega))) rfl 9 (by decide) (va_Nw.use rfl (nf_X5_101 hEv)) (fun _ hh => hh) rfl dX5_readSign_36 ?_
      obtain ⟨z12, ez12⟩ : ∃ y : Int32, st8 1 9 = y := ⟨_, rfl⟩
      refine zz_top (v := z12) (by exact ez12) ?_
      refine va_putN (host := "OffTheLead") (D := (dC, dI)) (ci := 5) (v := .int z12) (ty := .int) (C := RX4) (T := TX4) (N := 12) hx hb hts ii_X5_readSign_X4 tyX4 tyX4_ok nmX4 hown hK hP (xD hN _ _ _ _ _ _) hS (36 + 20 * 1) (xw_is (r := (36 + 20 * 1)) (by omega) (xc_pk (i := 1) (o := 0) (by omega) (by omega))) rfl 8 (by decide) (va_Nw.use rfl (nf_X5_155 hEv)) (fun _ hh => hh) rfl (by decide +kernel) rfl rfl (Nat.le_of_ble_eq_true rfl) dX5_readSign_39 (fun H locs hP _ hS => ?_)
      have hP : va_P (dC, dI) vwCl (xw A C nb (up2 st8 (36 + 20 * 1) 8 z12) sl9 so10) H := by rw [← xset (r := (36 + 20 * 1)) (k := 8) (v := z12) (xc_pk (i := 1) (o := 0) (by omega) (by omega))]; exact hP
      obtain ⟨st13, est13⟩ : ∃ y, y = up2 st8 (36 + 20 * 1) 8 z12 := ⟨_, rfl⟩
      have hG : XG [1, 2, 3, 4, 5, 6, 8, 9, 12, 13, 14, 15] st st13 := by rw [est13]; exact hG.up (xz (r := (36 + 20 * 1)) (k := 8) ((xrg_pk (i := 1) (o := 0) (k := 8) (by omega)).trans (by first | rfl | decide))) (xpn (c := 0) ((xcl_pk (i := 1) (o := 0) (k := 8) (by omega)).trans (by first | rfl | decide)) (by decide))
      rw [← est13] at hP
      refine lv_aload_n hx hb dX5_readSign_42 rfl (lv_at hl 1 rfl) ?_
      refine lv_bipush (v := 59) hx hb dX5_readSign_43 (by decide) ?_
      refine va_calli (va_runV (As := [.int 59]) (rest := []) ⟨hx, hb, hml, hown, hts⟩ (x_X8_takeMark l dC dI ad E hEE A C nb _ hN st13 sl9 so10 59  hG.1 hO.1) (cwV 1 hts gX5_readSign_X8_takeMark rfl rfl rfl (by decide +kernel) ⟨Nat.le_of_ble_eq_true rfl, Nat.le_of_ble_eq_true rfl⟩) ⟨fun a U g mk q => ⟨q.1, xPre.blind hEE q.2⟩, va_recv hK hP (ci := 9) (q0 := 1) rfl (xw_is (r := 1) (by omega) (xc_fix (r := 1) (by omega))), fun U hU hW => ⟨rfl, xPre.of hEE hP hK hE hS hU hW⟩⟩ rfl rfl hl.1 rfl (lv_room (Nat.le_of_ble_eq_true rfl)) dX5_readSign_45 ⟨Nat.le_of_ble_eq_true rfl, Nat.le_of_ble_eq_true rfl⟩) hS (fun q _ h => XA.le hS.1 q h) (XA.le hS.1) (fun r14 x t H locs ht hvm hw hB _ _ hS => ?_)
      have hP := xB.at ht hB
      clear hB ht hvm
      obtain ⟨st15, sl16, so17⟩ := x
      obtain ⟨hGst15, hLGst15, hOst15, hw⟩ := hw
      dsimp only at hGst15 hLGst15 hOst15 hw
      have hO : OG ad [2, 3, 4] so so17 := hO.tr hOst15 (by decide)
      have hP : va_P (dC, dI) vwCl (xw A C nb st15 sl16 so17) _ := hP
      have hG : XG [1, 2, 3, 4, 5, 6, 8, 9, 12, 13, 14, 15] st st15 := hG.tr hGst15 (by decide)
      rcases hw with rfl | ⟨rfl, hf18⟩
      · exact W.zret (v := 1) hx hb hr rfl (fun t ht hW => ⟨⟨1, (st15, sl16, so17), rfl, ⟨hG, hO, Or.inl (rfl)⟩, xB.of ht hP⟩, hS.F ht⟩) hS.2.2 dX5_readSign_48
      · exact W.zret (v := 0) hx hb hr rfl (fun t ht hW => ⟨⟨0, (st15, sl16, so17), rfl, ⟨hG, hO, Or.inr (⟨rfl, by show ¬ st15 1 13 = 0; exact hf18⟩)⟩, xB.of ht hP⟩, hS.F ht⟩) hS.2.2 dX5_readSign_48
    · refine lv_if_ne (tgt := 34) hx hb dX5_readSign_29 (by decide) (fun cc => absurd (by decide) cc) (fun _ => ?_)
      refine lv_iconst (v := 0) hx hb dX5_readSign_32 (by decide) ?_
      exact W.zret (v := 0) hx hb hr rfl (fun t ht hW => ⟨⟨0, (st8, sl9, so10), rfl, ⟨hG, hO, Or.inr (⟨rfl, by show ¬ st8 1 13 = 0; exact hf11⟩)⟩, xB.of ht hP⟩, hS.F ht⟩) hS.2.2 dX5_readSign_33
  · refine lv_aload_n hx hb dX5_readSign_7 rfl (lv_at hl 1 rfl) ?_
    refine lv_iconst (v := 3) hx hb dX5_readSign_8 (by decide) ?_
    refine va_calli (va_runV (As := [.int 3]) (rest := []) ⟨hx, hb, hml, hown, hts⟩ (x_X8_refuse l dC dI ad E hEE A C nb _ hN st sl so 3  hG.1) (cwV 1 hts gX5_readSign_X8_refuse rfl rfl rfl (by decide +kernel) ⟨Nat.le_of_ble_eq_true rfl, Nat.le_of_ble_eq_true rfl⟩) ⟨fun a U g mk q => ⟨q.1, xPre.blind hEE q.2⟩, va_recv hK hP (ci := 9) (q0 := 1) rfl (xw_is (r := 1) (by omega) (xc_fix (r := 1) (by omega))), fun U hU hW => ⟨rfl, xPre.of hEE hP hK hE hS hU hW⟩⟩ rfl rfl hl.1 rfl (lv_room (Nat.le_of_ble_eq_true rfl)) dX5_readSign_9 ⟨Nat.le_of_ble_eq_true rfl, Nat.le_of_ble_eq_true rfl⟩) hS (fun q _ h => XA.le hS.1 q h) (XA.le hS.1) (fun r19 x t H locs ht hvm hw hB _ _ hS => ?_)
    have hP := xB.at ht hB
    clear hB ht hvm
    obtain ⟨st20, sl21, so22⟩ := x
    obtain ⟨hGst20, hLGst20, hOst20, hw⟩ := hw
    dsimp only at hGst20 hLGst20 hOst20 hw
    replace hOst20 := hOst20.symm
    subst hOst20
    have hP : va_P (dC, dI) vwCl (xw A C nb st20 sl21 so) _ := hP
    have hG : XG [1, 2, 3, 4, 5, 6, 8, 9, 12, 13, 14, 15] st st20 := hG.tr hGst20 (by decide)
    obtain ⟨rfl, hf23⟩ := hw
    exact W.zret (v := 0) hx hb hr rfl (fun t ht hW => ⟨⟨0, (st20, sl21, so), rfl, ⟨hG, hO, Or.inr (⟨rfl, by show ¬ st20 1 13 = 0; rw [hf23]; decide⟩)⟩, xB.of ht hP⟩, hS.F ht⟩) hS.2.2 dX5_readSign_12
set_option maxHeartbeats 4000000 in
set_option maxRecDepth 100000 in
theorem x_X5_readAll (l : Launch) (dC : Nat → ClassId) (dI : Nat → Nat → Nat) (ad : Nat → Nat) (E : EP) (hEE : EC ad E) (A : Nat → Nat) (C : Nat → ClassId) (nb sz : Nat) (hN : XN A) (st : Nat → Nat → Int32) (sl : Nat → Nat → Int64) (so : Nat → XR) (hI : XI st) (hOI : OI ad so) : Met l yX5_readAll wsX5_readAll ({ frames := 9, cells := 0, slots := 0, locals := 196 }) (va_Pc [.ref (A 3), .ref (A 1), .ref (A (36 + 20 * 1))] (xPre E dC dI A C nb sz st sl so)) (va_Qi (fun (r : Int32) (x : XT) => XG [1, 2, 3, 4, 5, 6, 8, 9, 12, 13, 14, 15] st x.1 ∧ OG ad [2, 3, 4] so x.2.2 ∧ (True)) (xB dC dI A C nb) (XA A sz)) 0 0 (XA A sz) := by
  refine Met.ofW (cc := cX5_readAll) (maxL := 5) (ret := (some .int)) (by decide) rfl ?_
  intro p e s m args below meth c s₁ B hml hv
  obtain ⟨rfl, hsz, hP, hK, hE⟩ := hv
  have hx := B.exec
  have hb := B.bytes
  have hr := B.returns
  have hts := atoms_spec (ws := wsX5_readAll) B.pre
  have hown : s.vm.findClass RX5 = some m.cls := findClass_of_methodNamed B.named
  subst hsz
  have hEv := hEE.1 _ _ _ hE
  have hS : va_S (XA A s.heap.size) s.heap s.heap [] := va_S.rf
  have hG : XG [1, 2, 3, 4, 5, 6, 8, 9, 12, 13, 14, 15] st st := XG.rf hI
  have hO : OG ad [2, 3, 4] so so := OG.rf hOI
  have hl := lv_entry ([.ref (A 3), .ref (A 1), .ref (A (36 + 20 * 1))]) (n := 5) (Nat.le_of_ble_eq_true rfl)
  rw [lg_entry_eq]
  generalize (lg_sl ([.ref (A 3), .ref (A 1), .ref (A (36 + 20 * 1))]) ++ List.replicate (5 - (lg_sl ([.ref (A 3), .ref (A 1), .ref (A (36 + 20 * 1))])).length) Slot.unset).toArray = ls at hl ⊢
  have hl : lv_has ls 5 [(0, .ref (A 3)), (1, .ref (A 1)), (2, .ref (A (36 + 20 * 1)))] := hl
  refine lv_aload_n hx hb dX5_readAll_0 rfl (lv_at hl 2 rfl) ?_
  refine va_callv (va_runV (As := []) (rest := []) ⟨hx, hb, hml, hown, hts⟩ (x_X4_clear l dC dI ad E hEE A C nb _ hN st sl so 1 (by omega) hG.1) (cwV 0 hts gX5_readAll_X4_clear rfl rfl rfl (by decide +kernel) ⟨Nat.le_of_ble_eq_true rfl, Nat.le_of_ble_eq_true rfl⟩) ⟨fun a U g mk q => ⟨q.1, xPre.blind hEE q.2⟩, va_recv hK hP (ci := 5) (q0 := (36 + 20 * 1)) rfl (xw_is (r := (36 + 20 * 1)) (by omega) (xc_pk (i := 1) (o := 0) (by omega) (by omega))), fun U hU hW => ⟨rfl, xPre.of hEE hP hK hE hS hU hW⟩⟩ rfl rfl hl.1 rfl (lv_room (Nat.le_of_ble_eq_true rfl)) dX5_readAll_1 ⟨Nat.le_of_ble_eq_true rfl, Nat.le_of_ble_eq_true rfl⟩) hS (fun q _ h => XA.le hS.1 q h) (XA.le hS.1) (fun x t H locs ht hvm hw hB _ _ hS => ?_)
  have hP := xB.at ht hB
  clear hB ht hvm
  obtain ⟨st2, sl3, so4⟩ := x
  obtain ⟨hGst2, hLGst2, hOst2, hw⟩ := hw
  dsimp only at hGst2 hLGst2 hOst2 hw
  replace hOst2 := hOst2.symm
  subst hOst2
  have hP : va_P (dC, dI) vwCl (xw A C nb st2 sl3 so) _ := hP
  have hG : XG [1, 2, 3, 4, 5, 6, 8, 9, 12, 13, 14, 15] st st2 := hG.tr hGst2 (by decide)
  clear hw
  refine lv_aload_n hx hb dX5_readAll_4 rfl (lv_at hl 0 rfl) ?_
  refine lv_iconst (v := 0) hx hb dX5_readAll_5 (by decide) ?_
  refine va_put (D := (dC, dI)) (ci := 6) (v := .int 0) (ty := .int) (C := RX5) (T := TX5) (N := 2) hx hb hts ii_X5_readAll_X5 tyX5 tyX5_ok nmX5 hown hK hP (xD hN _ _ _ _ _ _) hS 3 (xw_is (r := 3) (by omega) (xc_fix (r := 3) (by omega))) rfl 0 (by decide) (hts _ mm_X5_readAll_1) (fun _ hh => hh) rfl (by decide +kernel) rfl rfl (Nat.le_of_ble_eq_true rfl) dX5_readAll_6 (fun H locs hP _ hS => ?_)
  have hP : va_P (dC, dI) vwCl (xw A C nb (up2 st2 3 0 0) sl3 so) H := by rw [← xset (r := 3) (k := 0) (v := 0) (xc_fix (r := 3) (by omega))]; exact hP
  obtain ⟨st5, est5⟩ : ∃ y, y = up2 st2 3 0 0 := ⟨_, rfl⟩
  have hG : XG [1, 2, 3, 4, 5, 6, 8, 9, 12, 13, 14, 15] st st5 := by rw [est5]; exact hG.up (xz (r := 3) (k := 0) (by decide : xrg 3 0 = 0)) (xpn (c := 0) (by decide : xcl 3 0 = 0) (by decide))
  rw [← est5] at hP
  refine lv_aload_n hx hb dX5_readAll_9 rfl (lv_at hl 0 rfl) ?_
  refine lv_iconst (v := 0) hx hb dX5_readAll_10 (by decide) ?_
  refine va_put (D := (dC, dI)) (ci := 6) (v := .int 0) (ty := .boolean) (C := RX5) (T := TX5) (N := 2) hx hb hts ii_X5_readAll_X5 tyX5 tyX5_ok nmX5 hown hK hP (xD hN _ _ _ _ _ _) hS 3 (xw_is (r := 3) (by omega) (xc_fix (r := 3) (by omega))) rfl 1 (by decide) (hts _ mm_X5_readAll_2) (fun _ hh => hh) rfl (by decide +kernel) rfl rfl (Nat.le_of_ble_eq_true rfl) dX5_readAll_11 (fun H locs hP _ hS => ?_)
  have hP : va_P (dC, dI) vwCl (xw A C nb (up2 st5 3 1 0) sl3 so) H := by rw [← xset (r := 3) (k := 1) (v := 0) (xc_fix (r := 3) (by omega))]; exact hP
  obtain ⟨st6, est6⟩ : ∃ y, y = up2 st5 3 1 0 := ⟨_, rfl⟩
  have hG : XG [1, 2, 3, 4, 5, 6, 8, 9, 12, 13, 14, 15] st st6 := by rw [est6]; exact hG.up (xz (r := 3) (k := 1) (by decide : xrg 3 1 = 0)) (xpn (c := 0) (by decide : xcl 3 1 = 0) (by decide))
  rw [← est6] at hP
  refine lv_iconst (v := 0) hx hb dX5_readAll_14 (by decide) ?_
  refine lv_istore_n (lv' := [(3, .int 0), (0, .ref (A 3)), (1, .ref (A 1)), (2, .ref (A (36 + 20 * 1)))]) hx hb dX5_readAll_15 rfl hl (by decide) rfl (fun ls hl => ?_)
  refine lv_iconst (v := 1) hx hb dX5_readAll_16 (by decide) ?_
  refine lv_istore (lv' := [(4, .int 1), (3, .int 0), (0, .ref (A 3)), (1, .ref (A 1)), (2, .ref (A (36 + 20 * 1)))]) hx hb dX5_readAll_17 hl (by decide) rfl (fun ls hl => ?_)
  refine zz_wf (fun n stk H locs ls => ∃ k7 : Nat, ∃ k8 : Nat, ∃ st9 : Nat → Nat → Int32, ∃ sl10 : Nat → Nat → Int64, ∃ so11 : Nat → XR, n = 901 - k8 ∧ 0 ≤ k7 ∧ k7 < 2 ∧ 0 ≤ k8 ∧ k8 < 901 ∧ va_P (dC, dI) vwCl (xw A C nb st9 sl10 so11) H ∧ XG [1, 2, 3, 4, 5, 6, 8, 9, 12, 13, 14, 15] st st9 ∧ OG ad [2, 3, 4] so so11 ∧ va_S (XA A s.heap.size) s.heap H locs ∧ lv_has ls 5 [(4, .int (nI k7)), (3, .int (nI k8)), (0, .ref (A 3)), (1, .ref (A 1)), (2, .ref (A (36 + 20 * 1)))] ∧ stk = []) ?_ (901 - 0) _ _ _ _ ⟨1, 0, st6, sl3, so, rfl, by omega, by omega, by omega, by omega, hP, hG, hO, hS, lv_sub hl [0, 1, 2, 3, 4] rfl, rfl⟩
  rintro nn stk H locs ls ⟨k7, k8, st9, sl10, so11, hm15, hv12_0, hv13_1, hv14_2, hv15_3, hP, hG, hO, hS, hl, rfl⟩ ih16
  refine lv_iload hx hb dX5_readAll_19 (lv_at hl 0 rfl) ?_
  refine lv_if_eq (tgt := 157) hx hb dX5_readAll_21 (by decide) (fun c1 => ?_) (fun c1 => ?_)
  · have c1 : k7 = 0 := (nI_eq (a := k7) (b := 0) (by omega) (by omega)).mp c1
    refine lv_iload_n hx hb dX5_readAll_157 rfl (lv_at hl 1 rfl) ?_
    exact W.iret (v := (nI k8)) hx hb hr (fun t ht hW => ⟨⟨(nI k8), (st9, sl10, so11), rfl, ⟨hG, hO, trivial⟩, xB.of ht hP⟩, hS.F ht⟩) hS.2.2 dX5_readAll_158
  · have c1 : ¬ k7 = 0 := fun hh => c1 ((nI_eq (a := k7) (b := 0) (by omega) (by omega)).mpr hh)
    refine lv_iload_n hx hb dX5_readAll_24 rfl (lv_at hl 1 rfl) ?_
    refine lv_sipush (v := 900) hx hb dX5_readAll_25 (by decide) ?_
    refine lv_icmp_ge (tgt := 157) hx hb dX5_readAll_28 (by decide) (fun c2 => ?_) (fun c2 => ?_)
    · have c2 : 900 ≤ k8 := (nI_leI (a := 900) (b := k8) (by omega) (by omega)).mp c2
      refine lv_iload_n hx hb dX5_readAll_157 rfl (lv_at hl 1 rfl) ?_
      exact W.iret (v := (nI k8)) hx hb hr (fun t ht hW => ⟨⟨(nI k8), (st9, sl10, so11), rfl, ⟨hG, hO, trivial⟩, xB.of ht hP⟩, hS.F ht⟩) hS.2.2 dX5_readAll_158
    · have c2 : ¬ 900 ≤ k8 := fun hh => c2 ((nI_leI (a := 900) (b := k8) (by omega) (by omega)).mpr hh)
      refine lv_aload_n hx hb dX5_readAll_31 rfl (lv_at hl 3 rfl) ?_
      refine va_getN (host := "OffTheLead") (D := (dC, dI)) (ci := 9) (v := .int (st9 1 4)) (C := RX8) (T := TX8) (N := 15) hx hb hts ii_X5_readAll_X8 hown hK hP 1 (xw_is (r := 1) (by omega) (xc_fix (r := 1) (by omega))) rfl 4 (by decide) (va_Nw.use rfl (nf_X5_24 hEv)) (fun _ hh => hh) rfl dX5_readAll_32 ?_
      obtain ⟨z17, ez17⟩ : ∃ y : Int32, st9 1 4 = y := ⟨_, rfl⟩
      refine zz_top (v := z17) (by exact ez17) ?_
      refine lv_iconst (v := 3) hx hb dX5_readAll_35 (by decide) ?_
      refine lv_icmp_eq (tgt := 157) hx hb dX5_readAll_36 (by decide) (fun c3 => ?_) (fun c3 => ?_)
      · refine lv_iload_n hx hb dX5_readAll_157 rfl (lv_at hl 1 rfl) ?_
        exact W.iret (v := (nI k8)) hx hb hr (fun t ht hW => ⟨⟨(nI k8), (st9, sl10, so11), rfl, ⟨hG, hO, trivial⟩, xB.of ht hP⟩, hS.F ht⟩) hS.2.2 dX5_readAll_158
      · refine lv_aload_n hx hb dX5_readAll_39 rfl (lv_at hl 3 rfl) ?_
        refine va_getN (host := "OffTheLead") (D := (dC, dI)) (ci := 9) (v := va_rf (so11 1 7)) (C := RX8) (T := TX8) (N := 15) hx hb hts ii_X5_readAll_X8 hown hK hP 1 (xw_is (r := 1) (by omega) (xc_fix (r := 1) (by omega))) rfl 7 (by decide) (va_Nw.use rfl (nf_X5_29 hEv)) (fun _ hh => hh) rfl dX5_readAll_40 ?_
        obtain ⟨j18, hj18, ej18⟩ := hO.1.2
        refine zz_topq (r := some (ad j18)) (by rw [ej18]) ?_
        refine va_gets (v := .ref (ad 0)) hx hb (EV.word hEv (i := 0) (by decide)) hS hown (hts _ mm_X5_readAll_3) (fun _ hh => hh) dX5_readAll_43 ?_
        refine lv_acmp_ne (rx := (some (ad j18))) (ry := (some (ad 0))) (tgt := 60) hx hb dX5_readAll_46 (by decide) (fun c4 => ?_) (fun c4 => ?_)
        · have c4 : ¬ j18 = 0 := fun hh => c4 ((EV.eqw hEv (i := j18) (j := 0) (by omega) (by omega)).mpr hh)
          refine lv_aload_n hx hb dX5_readAll_60 rfl (lv_at hl 3 rfl) ?_
          refine va_getN (host := "OffTheLead") (D := (dC, dI)) (ci := 9) (v := va_rf (so11 1 7)) (C := RX8) (T := TX8) (N := 15) hx hb hts ii_X5_readAll_X8 hown hK hP 1 (xw_is (r := 1) (by omega) (xc_fix (r := 1) (by omega))) rfl 7 (by decide) (va_Nw.use rfl (nf_X5_29 hEv)) (fun _ hh => hh) rfl dX5_readAll_61 ?_
          refine zz_topq (r := some (ad j18)) (by rw [ej18]) ?_
          refine va_gets (v := .ref (ad 2)) hx hb (EV.word hEv (i := 2) (by decide)) hS hown (hts _ mm_X5_readAll_4) (fun _ hh => hh) dX5_readAll_64 ?_
          refine lv_acmp_ne (rx := (some (ad j18))) (ry := (some (ad 2))) (tgt := 81) hx hb dX5_readAll_67 (by decide) (fun c5 => ?_) (fun c5 => ?_)
          · have c5 : ¬ j18 = 2 := fun hh => c5 ((EV.eqw hEv (i := j18) (j := 2) (by omega) (by omega)).mpr hh)
            refine lv_aload_n hx hb dX5_readAll_81 rfl (lv_at hl 3 rfl) ?_
            refine va_getN (host := "OffTheLead") (D := (dC, dI)) (ci := 9) (v := va_rf (so11 1 7)) (C := RX8) (T := TX8) (N := 15) hx hb hts ii_X5_readAll_X8 hown hK hP 1 (xw_is (r := 1) (by omega) (xc_fix (r := 1) (by omega))) rfl 7 (by decide) (va_Nw.use rfl (nf_X5_29 hEv)) (fun _ hh => hh) rfl dX5_readAll_82 ?_
            refine zz_topq (r := some (ad j18)) (by rw [ej18]) ?_
            refine va_gets (v := .ref (ad 3)) hx hb (EV.word hEv (i := 3) (by decide)) hS hown (hts _ mm_X5_readAll_5) (fun _ hh => hh) dX5_readAll_85 ?_
            refine lv_acmp_ne (rx := (some (ad j18))) (ry := (some (ad 3))) (tgt := 102) hx hb dX5_readAll_88 (by decide) (fun c6 => ?_) (fun c6 => ?_)
            · have c6 : ¬ j18 = 3 := fun hh => c6 ((EV.eqw hEv (i := j18) (j := 3) (by omega) (by omega)).mpr hh)
              refine lv_aload_n hx hb dX5_readAll_102 rfl (lv_at hl 3 rfl) ?_
              refine va_getN (host := "OffTheLead") (D := (dC, dI)) (ci := 9) (v := va_rf (so11 1 7)) (C := RX8) (T := TX8) (N := 15) hx hb hts ii_X5_readAll_X8 hown hK hP 1 (xw_is (r := 1) (by omega) (xc_fix (r := 1) (by omega))) rfl 7 (by decide) (va_Nw.use rfl (nf_X5_29 hEv)) (fun _ hh => hh) rfl dX5_readAll_103 ?_
              refine zz_topq (r := some (ad j18)) (by rw [ej18]) ?_
              refine va_gets (v := .ref (ad 4)) hx hb (EV.word hEv (i := 4) (by decide)) hS hown (hts _ mm_X5_readAll_6) (fun _ hh => hh) dX5_readAll_106 ?_
              refine lv_acmp_ne (rx := (some (ad j18))) (ry := (some (ad 4))) (tgt := 123) hx hb dX5_readAll_109 (by decide) (fun c7 => ?_) (fun c7 => ?_)
              · have c7 : ¬ j18 = 4 := fun hh => c7 ((EV.eqw hEv (i := j18) (j := 4) (by omega) (by omega)).mpr hh)
                refine lv_aload_n hx hb dX5_readAll_123 rfl (lv_at hl 3 rfl) ?_
                refine va_getN (host := "OffTheLead") (D := (dC, dI)) (ci := 9) (v := va_rf (so11 1 7)) (C := RX8) (T := TX8) (N := 15) hx hb hts ii_X5_readAll_X8 hown hK hP 1 (xw_is (r := 1) (by omega) (xc_fix (r := 1) (by omega))) rfl 7 (by decide) (va_Nw.use rfl (nf_X5_29 hEv)) (fun _ hh => hh) rfl dX5_readAll_124 ?_
                refine zz_topq (r := some (ad j18)) (by rw [ej18]) ?_
                refine va_gets (v := .ref (ad 5)) hx hb (EV.word hEv (i := 5) (by decide)) hS hown (hts _ mm_X5_readAll_7) (fun _ hh => hh) dX5_readAll_127 ?_
                refine lv_acmp_ne (rx := (some (ad j18))) (ry := (some (ad 5))) (tgt := 144) hx hb dX5_readAll_130 (by decide) (fun c8 => ?_) (fun c8 => ?_)
                · have c8 : ¬ j18 = 5 := fun hh => c8 ((EV.eqw hEv (i := j18) (j := 5) (by omega) (by omega)).mpr hh)
                  refine lv_aload_n hx hb dX5_readAll_144 rfl (lv_at hl 3 rfl) ?_
                  refine lv_iconst (v := 1) hx hb dX5_readAll_145 (by decide) ?_
                  refine va_calli (va_runV (As := [.int 1]) (rest := []) ⟨hx, hb, hml, hown, hts⟩ (x_X8_refuse l dC dI ad E hEE A C nb _ hN st9 sl10 so11 1  hG.1) (cwV 1 hts gX5_readAll_X8_refuse rfl rfl rfl (by decide +kernel) ⟨Nat.le_of_ble_eq_true rfl, Nat.le_of_ble_eq_true rfl⟩) ⟨fun a U g mk q => ⟨q.1, xPre.blind hEE q.2⟩, va_recv hK hP (ci := 9) (q0 := 1) rfl (xw_is (r := 1) (by omega) (xc_fix (r := 1) (by omega))), fun U hU hW => ⟨rfl, xPre.of hEE hP hK hE hS hU hW⟩⟩ rfl rfl hl.1 rfl (lv_room (Nat.le_of_ble_eq_true rfl)) dX5_readAll_146 ⟨Nat.le_of_ble_eq_true rfl, Nat.le_of_ble_eq_true rfl⟩) hS (fun q _ h => XA.le hS.1 q h) (XA.le hS.1) (fun r19 x t H locs ht hvm hw hB _ _ hS => ?_)
                  have hP := xB.at ht hB
                  clear hB ht hvm
                  obtain ⟨st20, sl21, so22⟩ := x
                  obtain ⟨hGst20, hLGst20, hOst20, hw⟩ := hw
                  dsimp only at hGst20 hLGst20 hOst20 hw
                  replace hOst20 := hOst20.symm
                  subst hOst20
                  have hP : va_P (dC, dI) vwCl (xw A C nb st20 sl21 so11) _ := hP
                  have hG : XG [1, 2, 3, 4, 5, 6, 8, 9, 12, 13, 14, 15] st st20 := hG.tr hGst20 (by decide)
                  obtain ⟨rfl, hf23⟩ := hw
                  refine lv_istore (lv' := [(4, .int 0), (3, .int (nI k8)), (0, .ref (A 3)), (1, .ref (A 1)), (2, .ref (A (36 + 20 * 1)))]) hx hb dX5_readAll_149 hl (by decide) rfl (fun ls hl => ?_)
                  refine lv_iinc (v := (nI (k8 + 1))) (lv' := [(3, .int (nI (k8 + 1))), (4, .int 0), (0, .ref (A 3)), (1, .ref (A 1)), (2, .ref (A (36 + 20 * 1)))]) hx hb dX5_readAll_151 hl (k := 1) rfl (nI_add k8 1) (by decide) rfl (fun ls hl => ?_)
                  refine lv_goto (tgt := 19) hx hb dX5_readAll_154 (by decide) ?_
                  exact ih16 (901 - (k8 + 1)) _ _ _ _ (by omega) ⟨0, (k8 + 1), st20, sl21, so11, rfl, by omega, by omega, by omega, by omega, hP, hG, hO, hS, lv_sub hl [1, 0, 2, 3, 4] rfl, rfl⟩
                · have c8 : j18 = 5 := (EV.eqw hEv (i := j18) (j := 5) (by omega) (by omega)).mp c8
                  refine lv_aload_n hx hb dX5_readAll_133 rfl (lv_at hl 2 rfl) ?_
                  refine lv_aload_n hx hb dX5_readAll_134 rfl (lv_at hl 3 rfl) ?_
                  refine lv_aload_n hx hb dX5_readAll_135 rfl (lv_at hl 4 rfl) ?_
                  refine va_calli (va_runV (As := [.ref (A 1), .ref (A (36 + 20 * 1))]) (rest := []) ⟨hx, hb, hml, hown, hts⟩ (x_X5_readSign l dC dI ad E hEE A C nb _ hN st9 sl10 so11  hG.1 hO.1) (cwV 2 hts gX5_readAll_X5_readSign rfl rfl rfl (by decide +kernel) ⟨Nat.le_of_ble_eq_true rfl, Nat.le_of_ble_eq_true rfl⟩) ⟨fun a U g mk q => ⟨q.1, xPre.blind hEE q.2⟩, va_recv hK hP (ci := 6) (q0 := 3) rfl (xw_is (r := 3) (by omega) (xc_fix (r := 3) (by omega))), fun U hU hW => ⟨rfl, xPre.of hEE hP hK hE hS hU hW⟩⟩ rfl rfl hl.1 rfl (lv_room (Nat.le_of_ble_eq_true rfl)) dX5_readAll_136 ⟨Nat.le_of_ble_eq_true rfl, Nat.le_of_ble_eq_true rfl⟩) hS (fun q _ h => XA.le hS.1 q h) (XA.le hS.1) (fun r24 x t H locs ht hvm hw hB _ _ hS => ?_)
                  have hP := xB.at ht hB
                  clear hB ht hvm
                  obtain ⟨st25, sl26, so27⟩ := x
                  obtain ⟨hGst25, hOst25, hw⟩ := hw
                  dsimp only at hGst25 hOst25 hw
                  have hO : OG ad [2, 3, 4] so so27 := hO.tr hOst25 (by decide)
                  have hP : va_P (dC, dI) vwCl (xw A C nb st25 sl26 so27) _ := hP
                  have hG : XG [1, 2, 3, 4, 5, 6, 8, 9, 12, 13, 14, 15] st st25 := hG.tr hGst25 (by decide)
                  rcases hw with rfl | ⟨rfl, hf28⟩
                  · refine lv_istore (lv' := [(4, .int 1), (3, .int (nI k8)), (0, .ref (A 3)), (1, .ref (A 1)), (2, .ref (A (36 + 20 * 1)))]) hx hb dX5_readAll_139 hl (by decide) rfl (fun ls hl => ?_)
                    refine lv_goto (tgt := 151) hx hb dX5_readAll_141 (by decide) ?_
                    refine lv_iinc (v := (nI (k8 + 1))) (lv' := [(3, .int (nI (k8 + 1))), (4, .int 1), (0, .ref (A 3)), (1, .ref (A 1)), (2, .ref (A (36 + 20 * 1)))]) hx hb dX5_readAll_151 hl (k := 1) rfl (nI_add k8 1) (by decide) rfl (fun ls hl => ?_)
                    refine lv_goto (tgt := 19) hx hb dX5_readAll_154 (by decide) ?_
                    exact ih16 (901 - (k8 + 1)) _ _ _ _ (by omega) ⟨1, (k8 + 1), st25, sl26, so27, rfl, by omega, by omega, by omega, by omega, hP, hG, hO, hS, lv_sub hl [1, 0, 2, 3, 4] rfl, rfl⟩
                  · refine lv_istore (lv' := [(4, .int 0), (3, .int (nI k8)), (0, .ref (A 3)), (1, .ref (A 1)), (2, .ref (A (36 + 20 * 1)))]) hx hb dX5_readAll_139 hl (by decide) rfl (fun ls hl => ?_)
                    refine lv_goto (tgt := 151) hx hb dX5_readAll_141 (by decide) ?_
                    refine lv_iinc (v := (nI (k8 + 1))) (lv' := [(3, .int (nI (k8 + 1))), (4, .int 0), (0, .ref (A 3)), (1, .ref (A 1)), (2, .ref (A (36 + 20 * 1)))]) hx hb dX5_readAll_151 hl (k := 1) rfl (nI_add k8 1) (by decide) rfl (fun ls hl => ?_)
                    refine lv_goto (tgt := 19) hx hb dX5_readAll_154 (by decide) ?_
                    exact ih16 (901 - (k8 + 1)) _ _ _ _ (by omega) ⟨0, (k8 + 1), st25, sl26, so27, rfl, by omega, by omega, by omega, by omega, hP, hG, hO, hS, lv_sub hl [1, 0, 2, 3, 4] rfl, rfl⟩
              · have c7 : j18 = 4 := (EV.eqw hEv (i := j18) (j := 4) (by omega) (by omega)).mp c7
                refine lv_aload_n hx hb dX5_readAll_112 rfl (lv_at hl 2 rfl) ?_
                refine lv_aload_n hx hb dX5_readAll_113 rfl (lv_at hl 3 rfl) ?_
                refine lv_aload_n hx hb dX5_readAll_114 rfl (lv_at hl 4 rfl) ?_
                refine va_calli (va_runV (As := [.ref (A 1), .ref (A (36 + 20 * 1))]) (rest := []) ⟨hx, hb, hml, hown, hts⟩ (x_X5_readFree l dC dI ad E hEE A C nb _ hN st9 sl10 so11  hG.1 hO.1) (cwV 2 hts gX5_readAll_X5_readFree rfl rfl rfl (by decide +kernel) ⟨Nat.le_of_ble_eq_true rfl, Nat.le_of_ble_eq_true rfl⟩) ⟨fun a U g mk q => ⟨q.1, xPre.blind hEE q.2⟩, va_recv hK hP (ci := 6) (q0 := 3) rfl (xw_is (r := 3) (by omega) (xc_fix (r := 3) (by omega))), fun U hU hW => ⟨rfl, xPre.of hEE hP hK hE hS hU hW⟩⟩ rfl rfl hl.1 rfl (lv_room (Nat.le_of_ble_eq_true rfl)) dX5_readAll_115 ⟨Nat.le_of_ble_eq_true rfl, Nat.le_of_ble_eq_true rfl⟩) hS (fun q _ h => XA.le hS.1 q h) (XA.le hS.1) (fun r29 x t H locs ht hvm hw hB _ _ hS => ?_)
                have hP := xB.at ht hB
                clear hB ht hvm
                obtain ⟨st30, sl31, so32⟩ := x
                obtain ⟨hGst30, hOst30, hw⟩ := hw
                dsimp only at hGst30 hOst30 hw
                have hO : OG ad [2, 3, 4] so so32 := hO.tr hOst30 (by decide)
                have hP : va_P (dC, dI) vwCl (xw A C nb st30 sl31 so32) _ := hP
                have hG : XG [1, 2, 3, 4, 5, 6, 8, 9, 12, 13, 14, 15] st st30 := hG.tr hGst30 (by decide)
                rcases hw with rfl | ⟨rfl, hf33⟩
                · refine lv_istore (lv' := [(4, .int 1), (3, .int (nI k8)), (0, .ref (A 3)), (1, .ref (A 1)), (2, .ref (A (36 + 20 * 1)))]) hx hb dX5_readAll_118 hl (by decide) rfl (fun ls hl => ?_)
                  refine lv_goto (tgt := 151) hx hb dX5_readAll_120 (by decide) ?_
                  refine lv_iinc (v := (nI (k8 + 1))) (lv' := [(3, .int (nI (k8 + 1))), (4, .int 1), (0, .ref (A 3)), (1, .ref (A 1)), (2, .ref (A (36 + 20 * 1)))]) hx hb dX5_readAll_151 hl (k := 1) rfl (nI_add k8 1) (by decide) rfl (fun ls hl => ?_)
                  refine lv_goto (tgt := 19) hx hb dX5_readAll_154 (by decide) ?_
                  exact ih16 (901 - (k8 + 1)) _ _ _ _ (by omega) ⟨1, (k8 + 1), st30, sl31, so32, rfl, by omega, by omega, by omega, by omega, hP, hG, hO, hS, lv_sub hl [1, 0, 2, 3, 4] rfl, rfl⟩
                · refine lv_istore (lv' := [(4, .int 0), (3, .int (nI k8)), (0, .ref (A 3)), (1, .ref (A 1)), (2, .ref (A (36 + 20 * 1)))]) hx hb dX5_readAll_118 hl (by decide) rfl (fun ls hl => ?_)
                  refine lv_goto (tgt := 151) hx hb dX5_readAll_120 (by decide) ?_
                  refine lv_iinc (v := (nI (k8 + 1))) (lv' := [(3, .int (nI (k8 + 1))), (4, .int 0), (0, .ref (A 3)), (1, .ref (A 1)), (2, .ref (A (36 + 20 * 1)))]) hx hb dX5_readAll_151 hl (k := 1) rfl (nI_add k8 1) (by decide) rfl (fun ls hl => ?_)
                  refine lv_goto (tgt := 19) hx hb dX5_readAll_154 (by decide) ?_
                  exact ih16 (901 - (k8 + 1)) _ _ _ _ (by omega) ⟨0, (k8 + 1), st30, sl31, so32, rfl, by omega, by omega, by omega, by omega, hP, hG, hO, hS, lv_sub hl [1, 0, 2, 3, 4] rfl, rfl⟩
            · have c6 : j18 = 3 := (EV.eqw hEv (i := j18) (j := 3) (by omega) (by omega)).mp c6
              refine lv_aload_n hx hb dX5_readAll_91 rfl (lv_at hl 2 rfl) ?_
              refine lv_aload_n hx hb dX5_readAll_92 rfl (lv_at hl 3 rfl) ?_
              refine lv_aload_n hx hb dX5_readAll_93 rfl (lv_at hl 4 rfl) ?_
              refine va_calli (va_runV (As := [.ref (A 1), .ref (A (36 + 20 * 1))]) (rest := []) ⟨hx, hb, hml, hown, hts⟩ (x_X5_readDog l dC dI ad E hEE A C nb _ hN st9 sl10 so11  hG.1 hO.1) (cwV 2 hts gX5_readAll_X5_readDog rfl rfl rfl (by decide +kernel) ⟨Nat.le_of_ble_eq_true rfl, Nat.le_of_ble_eq_true rfl⟩) ⟨fun a U g mk q => ⟨q.1, xPre.blind hEE q.2⟩, va_recv hK hP (ci := 6) (q0 := 3) rfl (xw_is (r := 3) (by omega) (xc_fix (r := 3) (by omega))), fun U hU hW => ⟨rfl, xPre.of hEE hP hK hE hS hU hW⟩⟩ rfl rfl hl.1 rfl (lv_room (Nat.le_of_ble_eq_true rfl)) dX5_readAll_94 ⟨Nat.le_of_ble_eq_true rfl, Nat.le_of_ble_eq_true rfl⟩) hS (fun q _ h => XA.le hS.1 q h) (XA.le hS.1) (fun r34 x t H locs ht hvm hw hB _ _ hS => ?_)
              have hP := xB.at ht hB
              clear hB ht hvm
              obtain ⟨st35, sl36, so37⟩ := x
              obtain ⟨hGst35, hOst35, hw⟩ := hw
              dsimp only at hGst35 hOst35 hw
              have hO : OG ad [2, 3, 4] so so37 := hO.tr hOst35 (by decide)
              have hP : va_P (dC, dI) vwCl (xw A C nb st35 sl36 so37) _ := hP
              have hG : XG [1, 2, 3, 4, 5, 6, 8, 9, 12, 13, 14, 15] st st35 := hG.tr hGst35 (by decide)
              rcases hw with rfl | ⟨rfl, hf38⟩
              · refine lv_istore (lv' := [(4, .int 1), (3, .int (nI k8)), (0, .ref (A 3)), (1, .ref (A 1)), (2, .ref (A (36 + 20 * 1)))]) hx hb dX5_readAll_97 hl (by decide) rfl (fun ls hl => ?_)
                refine lv_goto (tgt := 151) hx hb dX5_readAll_99 (by decide) ?_
                refine lv_iinc (v := (nI (k8 + 1))) (lv' := [(3, .int (nI (k8 + 1))), (4, .int 1), (0, .ref (A 3)), (1, .ref (A 1)), (2, .ref (A (36 + 20 * 1)))]) hx hb dX5_readAll_151 hl (k := 1) rfl (nI_add k8 1) (by decide) rfl (fun ls hl => ?_)
                refine lv_goto (tgt := 19) hx hb dX5_readAll_154 (by decide) ?_
                exact ih16 (901 - (k8 + 1)) _ _ _ _ (by omega) ⟨1, (k8 + 1), st35, sl36, so37, rfl, by omega, by omega, by omega, by omega, hP, hG, hO, hS, lv_sub hl [1, 0, 2, 3, 4] rfl, rfl⟩
              · refine lv_istore (lv' := [(4, .int 0), (3, .int (nI k8)), (0, .ref (A 3)), (1, .ref (A 1)), (2, .ref (A (36 + 20 * 1)))]) hx hb dX5_readAll_97 hl (by decide) rfl (fun ls hl => ?_)
                refine lv_goto (tgt := 151) hx hb dX5_readAll_99 (by decide) ?_
                refine lv_iinc (v := (nI (k8 + 1))) (lv' := [(3, .int (nI (k8 + 1))), (4, .int 0), (0, .ref (A 3)), (1, .ref (A 1)), (2, .ref (A (36 + 20 * 1)))]) hx hb dX5_readAll_151 hl (k := 1) rfl (nI_add k8 1) (by decide) rfl (fun ls hl => ?_)
                refine lv_goto (tgt := 19) hx hb dX5_readAll_154 (by decide) ?_
                exact ih16 (901 - (k8 + 1)) _ _ _ _ (by omega) ⟨0, (k8 + 1), st35, sl36, so37, rfl, by omega, by omega, by omega, by omega, hP, hG, hO, hS, lv_sub hl [1, 0, 2, 3, 4] rfl, rfl⟩
          · have c5 : j18 = 2 := (EV.eqw hEv (i := j18) (j := 2) (by omega) (by omega)).mp c5
            refine lv_aload_n hx hb dX5_readAll_70 rfl (lv_at hl 2 rfl) ?_
            refine lv_aload_n hx hb dX5_readAll_71 rfl (lv_at hl 3 rfl) ?_
            refine lv_aload_n hx hb dX5_readAll_72 rfl (lv_at hl 4 rfl) ?_
            refine va_calli (va_runV (As := [.ref (A 1), .ref (A (36 + 20 * 1))]) (rest := []) ⟨hx, hb, hml, hown, hts⟩ (x_X5_readPerson l dC dI ad E hEE A C nb _ hN st9 sl10 so11  hG.1 hO.1) (cwV 2 hts gX5_readAll_X5_readPerson rfl rfl rfl (by decide +kernel) ⟨Nat.le_of_ble_eq_true rfl, Nat.le_of_ble_eq_true rfl⟩) ⟨fun a U g mk q => ⟨q.1, xPre.blind hEE q.2⟩, va_recv hK hP (ci := 6) (q0 := 3) rfl (xw_is (r := 3) (by omega) (xc_fix (r := 3) (by omega))), fun U hU hW => ⟨rfl, xPre.of hEE hP hK hE hS hU hW⟩⟩ rfl rfl hl.1 rfl (lv_room (Nat.le_of_ble_eq_true rfl)) dX5_readAll_73 ⟨Nat.le_of_ble_eq_true rfl, Nat.le_of_ble_eq_true rfl⟩) hS (fun q _ h => XA.le hS.1 q h) (XA.le hS.1) (fun r39 x t H locs ht hvm hw hB _ _ hS => ?_)
            have hP := xB.at ht hB
            clear hB ht hvm
            obtain ⟨st40, sl41, so42⟩ := x
            obtain ⟨hGst40, hOst40, hw⟩ := hw
            dsimp only at hGst40 hOst40 hw
            have hO : OG ad [2, 3, 4] so so42 := hO.tr hOst40 (by decide)
            have hP : va_P (dC, dI) vwCl (xw A C nb st40 sl41 so42) _ := hP
            have hG : XG [1, 2, 3, 4, 5, 6, 8, 9, 12, 13, 14, 15] st st40 := hG.tr hGst40 (by decide)
            rcases hw with rfl | ⟨rfl, hf43⟩
            · refine lv_istore (lv' := [(4, .int 1), (3, .int (nI k8)), (0, .ref (A 3)), (1, .ref (A 1)), (2, .ref (A (36 + 20 * 1)))]) hx hb dX5_readAll_76 hl (by decide) rfl (fun ls hl => ?_)
              refine lv_goto (tgt := 151) hx hb dX5_readAll_78 (by decide) ?_
              refine lv_iinc (v := (nI (k8 + 1))) (lv' := [(3, .int (nI (k8 + 1))), (4, .int 1), (0, .ref (A 3)), (1, .ref (A 1)), (2, .ref (A (36 + 20 * 1)))]) hx hb dX5_readAll_151 hl (k := 1) rfl (nI_add k8 1) (by decide) rfl (fun ls hl => ?_)
              refine lv_goto (tgt := 19) hx hb dX5_readAll_154 (by decide) ?_
              exact ih16 (901 - (k8 + 1)) _ _ _ _ (by omega) ⟨1, (k8 + 1), st40, sl41, so42, rfl, by omega, by omega, by omega, by omega, hP, hG, hO, hS, lv_sub hl [1, 0, 2, 3, 4] rfl, rfl⟩
            · refine lv_istore (lv' := [(4, .int 0), (3, .int (nI k8)), (0, .ref (A 3)), (1, .ref (A 1)), (2, .ref (A (36 + 20 * 1)))]) hx hb dX5_readAll_76 hl (by decide) rfl (fun ls hl => ?_)
              refine lv_goto (tgt := 151) hx hb dX5_readAll_78 (by decide) ?_
              refine lv_iinc (v := (nI (k8 + 1))) (lv' := [(3, .int (nI (k8 + 1))), (4, .int 0), (0, .ref (A 3)), (1, .ref (A 1)), (2, .ref (A (36 + 20 * 1)))]) hx hb dX5_readAll_151 hl (k := 1) rfl (nI_add k8 1) (by decide) rfl (fun ls hl => ?_)
              refine lv_goto (tgt := 19) hx hb dX5_readAll_154 (by decide) ?_
              exact ih16 (901 - (k8 + 1)) _ _ _ _ (by omega) ⟨0, (k8 + 1), st40, sl41, so42, rfl, by omega, by omega, by omega, by omega, hP, hG, hO, hS, lv_sub hl [1, 0, 2, 3, 4] rfl, rfl⟩
        · have c4 : j18 = 0 := (EV.eqw hEv (i := j18) (j := 0) (by omega) (by omega)).mp c4
          refine lv_aload_n hx hb dX5_readAll_49 rfl (lv_at hl 2 rfl) ?_
          refine lv_aload_n hx hb dX5_readAll_50 rfl (lv_at hl 3 rfl) ?_
          refine lv_aload_n hx hb dX5_readAll_51 rfl (lv_at hl 4 rfl) ?_
          refine va_calli (va_runV (As := [.ref (A 1), .ref (A (36 + 20 * 1))]) (rest := []) ⟨hx, hb, hml, hown, hts⟩ (x_X5_readPlace l dC dI ad E hEE A C nb _ hN st9 sl10 so11  hG.1 hO.1) (cwV 2 hts gX5_readAll_X5_readPlace rfl rfl rfl (by decide +kernel) ⟨Nat.le_of_ble_eq_true rfl, Nat.le_of_ble_eq_true rfl⟩) ⟨fun a U g mk q => ⟨q.1, xPre.blind hEE q.2⟩, va_recv hK hP (ci := 6) (q0 := 3) rfl (xw_is (r := 3) (by omega) (xc_fix (r := 3) (by omega))), fun U hU hW => ⟨rfl, xPre.of hEE hP hK hE hS hU hW⟩⟩ rfl rfl hl.1 rfl (lv_room (Nat.le_of_ble_eq_true rfl)) dX5_readAll_52 ⟨Nat.le_of_ble_eq_true rfl, Nat.le_of_ble_eq_true rfl⟩) hS (fun q _ h => XA.le hS.1 q h) (XA.le hS.1) (fun r44 x t H locs ht hvm hw hB _ _ hS => ?_)
          have hP := xB.at ht hB
          clear hB ht hvm
          obtain ⟨st45, sl46, so47⟩ := x
          obtain ⟨hGst45, hOst45, hw⟩ := hw
          dsimp only at hGst45 hOst45 hw
          have hO : OG ad [2, 3, 4] so so47 := hO.tr hOst45 (by decide)
          have hP : va_P (dC, dI) vwCl (xw A C nb st45 sl46 so47) _ := hP
          have hG : XG [1, 2, 3, 4, 5, 6, 8, 9, 12, 13, 14, 15] st st45 := hG.tr hGst45 (by decide)
          rcases hw with rfl | ⟨rfl, hf48⟩
          · refine lv_istore (lv' := [(4, .int 1), (3, .int (nI k8)), (0, .ref (A 3)), (1, .ref (A 1)), (2, .ref (A (36 + 20 * 1)))]) hx hb dX5_readAll_55 hl (by decide) rfl (fun ls hl => ?_)
            refine lv_goto (tgt := 151) hx hb dX5_readAll_57 (by decide) ?_
            refine lv_iinc (v := (nI (k8 + 1))) (lv' := [(3, .int (nI (k8 + 1))), (4, .int 1), (0, .ref (A 3)), (1, .ref (A 1)), (2, .ref (A (36 + 20 * 1)))]) hx hb dX5_readAll_151 hl (k := 1) rfl (nI_add k8 1) (by decide) rfl (fun ls hl => ?_)
            refine lv_goto (tgt := 19) hx hb dX5_readAll_154 (by decide) ?_
            exact ih16 (901 - (k8 + 1)) _ _ _ _ (by omega) ⟨1, (k8 + 1), st45, sl46, so47, rfl, by omega, by omega, by omega, by omega, hP, hG, hO, hS, lv_sub hl [1, 0, 2, 3, 4] rfl, rfl⟩
          · refine lv_istore (lv' := [(4, .int 0), (3, .int (nI k8)), (0, .ref (A 3)), (1, .ref (A 1)), (2, .ref (A (36 + 20 * 1)))]) hx hb dX5_readAll_55 hl (by decide) rfl (fun ls hl => ?_)
            refine lv_goto (tgt := 151) hx hb dX5_readAll_57 (by decide) ?_
            refine lv_iinc (v := (nI (k8 + 1))) (lv' := [(3, .int (nI (k8 + 1))), (4, .int 0), (0, .ref (A 3)), (1, .ref (A 1)), (2, .ref (A (36 + 20 * 1)))]) hx hb dX5_readAll_151 hl (k := 1) rfl (nI_add k8 1) (by decide) rfl (fun ls hl => ?_)
            refine lv_goto (tgt := 19) hx hb dX5_readAll_154 (by decide) ?_
            exact ih16 (901 - (k8 + 1)) _ _ _ _ (by omega) ⟨0, (k8 + 1), st45, sl46, so47, rfl, by omega, by omega, by omega, by omega, hP, hG, hO, hS, lv_sub hl [1, 0, 2, 3, 4] rfl, rfl⟩
