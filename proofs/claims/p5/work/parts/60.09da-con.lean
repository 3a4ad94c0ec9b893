set_option maxHeartbeats 4000000 in
set_option maxRecDepth 100000 in
theorem x_X11_feed (l : Launch) (dC : Nat → ClassId) (dI : Nat → Nat → Nat) (ad : Nat → Nat) (E : EP) (hEE : EC ad E) (A : Nat → Nat) (C : Nat → ClassId) (nb sz : Nat) (hN : XN A) (st : Nat → Nat → Int32) (sl : Nat → Nat → Int64) (so : Nat → XR) (va : Int32) (vb : Int32) (vc : Int32) (vd : Int32) (ve : Int32) (gt : Nat) (hI : XI st) (hgt : st 1 1 = nI gt) (hgt2 : gt < 941) : Met l yX11_feed wsX11_feed ({ frames := 1, cells := 0, slots := 0, locals := 22 }) (va_Pc [.ref (A 0), .int va, .int vb, .int vc, .int vd, .int ve] (xPre E dC dI A C nb sz st sl so)) (va_Qi (fun (r : Int32) (x : XT) => XG [2, 4, 5, 13, 15, 7, 12] st x.1 ∧ LGq sl x.2.1 ∧ x.2.2 = so ∧ ((r = (-1) ∧ 920 < gt ∧ x.1 1 1 = nI gt ∧ (∀ j, x.1 2 j = st 2 j)) ∨ (∃ n : Nat, r = nI n ∧ n = gt + 20 ∧ gt ≤ 920 ∧ x.1 1 1 = nI (gt + 20) ∧ (∀ j, j < gt → x.1 2 j = st 2 j) ∧ (∀ j, j < 20 → x.1 2 (gt + j) = sbt (fby va vb vc vd ve j))))) (xB dC dI A C nb) (XA A sz)) 0 0 (XA A sz) := by
  refine Met.ofW (cc := cX11_feed) (maxL := 6) (ret := (some .int)) (by decide) rfl ?_
  intro p e s m args below meth c s₁ B hml hv
  obtain ⟨rfl, hsz, hP, hK, hE⟩ := hv
  have hx := B.exec
  have hb := B.bytes
  have hr := B.returns
  have hts := atoms_spec (ws := wsX11_feed) B.pre
  have hown : s.vm.findClass RX11 = some m.cls := findClass_of_methodNamed B.named
  subst hsz
  have hEv := hEE.1 _ _ _ hE
  have hS : va_S (XA A s.heap.size) s.heap s.heap [] := va_S.rf
  have hG : XG [2, 4, 5, 13, 15, 7, 12] st st := XG.rf hI
  have hl := lv_entry ([.ref (A 0), .int va, .int vb, .int vc, .int vd, .int ve]) (n := 6) (Nat.le_of_ble_eq_true rfl)
  rw [lg_entry_eq]
  generalize (lg_sl ([.ref (A 0), .int va, .int vb, .int vc, .int vd, .int ve]) ++ List.replicate (6 - (lg_sl ([.ref (A 0), .int va, .int vb, .int vc, .int vd, .int ve])).length) Slot.unset).toArray = ls at hl ⊢
  have hl : lv_has ls 6 [(0, .ref (A 0)), (1, .int va), (2, .int vb), (3, .int vc), (4, .int vd), (5, .int ve)] := hl
  have hL : LGq sl sl := LGq.rf
  refine lv_aload_n hx hb dX11_feed_0 rfl (lv_at hl 0 rfl) ?_
  refine va_get (D := (dC, dI)) (ci := 10) (v := .ref (A 1)) (C := RX11) (T := TX11) (N := 19) hx hb hts ii_X11_feed_X11 hown hK hP 0 (xw_is (r := 0) (by omega) (xc_fix (r := 0) (by omega))) rfl 0 (by decide) (hts _ mm_X11_feed_1) (fun _ hh => hh) rfl dX11_feed_1 ?_
  refine va_getN (host := "OffTheLead") (D := (dC, dI)) (ci := 9) (v := .int (st 1 1)) (C := RX8) (T := TX8) (N := 15) hx hb hts ii_X11_feed_X8 hown hK hP 1 (xw_is (r := 1) (by omega) (xc_fix (r := 1) (by omega))) rfl 1 (by decide) (va_Nw.use rfl (nf_X11_100 hEv)) (fun _ hh => hh) rfl dX11_feed_4 ?_
  refine zz_top (v := (nI gt)) (by show st 1 1 = _; rw [hgt]) ?_
  refine lv_bipush (v := 20) hx hb dX11_feed_7 (by decide) ?_
  refine lv_iadd hx hb dX11_feed_9 ?_
  refine zz_top (v := nI (gt + 20)) (nI_add gt 20) ?_
  refine lv_sipush (v := 940) hx hb dX11_feed_10 (by decide) ?_
  refine lv_icmp_le (tgt := 18) hx hb dX11_feed_13 (by decide) (fun c1 => ?_) (fun c1 => ?_)
  · have c1 : (gt + 20) ≤ 940 := (nI_leI (a := (gt + 20)) (b := 940) (by omega) (by omega)).mp c1
    refine lv_aload_n hx hb dX11_feed_18 rfl (lv_at hl 0 rfl) ?_
    refine va_get (D := (dC, dI)) (ci := 10) (v := .ref (A 1)) (C := RX11) (T := TX11) (N := 19) hx hb hts ii_X11_feed_X11 hown hK hP 0 (xw_is (r := 0) (by omega) (xc_fix (r := 0) (by omega))) rfl 0 (by decide) (hts _ mm_X11_feed_1) (fun _ hh => hh) rfl dX11_feed_19 ?_
    refine lv_iload_n hx hb dX11_feed_22 rfl (lv_at hl 1 rfl) ?_
    refine va_callv (va_runV (As := [.int va]) (rest := []) ⟨hx, hb, hml, hown, hts⟩ (x_X8_append l dC dI ad E hEE A C nb _ hN st sl so va gt  hG.1 (by rw [hgt]) (by omega)) (cwV 1 hts gX11_feed_X8_append rfl rfl rfl (by decide +kernel) ⟨Nat.le_of_ble_eq_true rfl, Nat.le_of_ble_eq_true rfl⟩) ⟨fun a U g mk q => ⟨q.1, xPre.blind hEE q.2⟩, va_recv hK hP (ci := 9) (q0 := 1) rfl (xw_is (r := 1) (by omega) (xc_fix (r := 1) (by omega))), fun U hU hW => ⟨rfl, xPre.of hEE hP hK hE hS hU hW⟩⟩ rfl rfl hl.1 rfl (lv_room (Nat.le_of_ble_eq_true rfl)) dX11_feed_23 ⟨Nat.le_of_ble_eq_true rfl, Nat.le_of_ble_eq_true rfl⟩) hS (fun q _ h => XA.le hS.1 q h) (XA.le hS.1) (fun x t H locs ht hvm hw hB _ _ hS => ?_)
    have hP := xB.at ht hB
    clear hB ht hvm
    obtain ⟨st2, sl3, so4⟩ := x
    obtain ⟨hGst2, hLGst2, hOst2, hw⟩ := hw
    dsimp only at hGst2 hLGst2 hOst2 hw
    have hL : LGq sl sl3 := hL.tr hLGst2
    replace hOst2 := hOst2.symm
    subst hOst2
    have hP : va_P (dC, dI) vwCl (xw A C nb st2 sl3 so) _ := hP
    have hG : XG [2, 4, 5, 13, 15, 7, 12] st st2 := hG.tr hGst2 (by decide)
    obtain ⟨hf5, hf6, hf7⟩ := hw
    refine lv_aload_n hx hb dX11_feed_26 rfl (lv_at hl 0 rfl) ?_
    refine va_get (D := (dC, dI)) (ci := 10) (v := .ref (A 1)) (C := RX11) (T := TX11) (N := 19) hx hb hts ii_X11_feed_X11 hown hK hP 0 (xw_is (r := 0) (by omega) (xc_fix (r := 0) (by omega))) rfl 0 (by decide) (hts _ mm_X11_feed_1) (fun _ hh => hh) rfl dX11_feed_27 ?_
    refine lv_iload_n hx hb dX11_feed_30 rfl (lv_at hl 2 rfl) ?_
    refine va_callv (va_runV (As := [.int vb]) (rest := []) ⟨hx, hb, hml, hown, hts⟩ (x_X8_append l dC dI ad E hEE A C nb _ hN st2 sl3 so vb (gt + 4)  hG.1 (by rw [hf5]) (by omega)) (cwV 1 hts gX11_feed_X8_append rfl rfl rfl (by decide +kernel) ⟨Nat.le_of_ble_eq_true rfl, Nat.le_of_ble_eq_true rfl⟩) ⟨fun a U g mk q => ⟨q.1, xPre.blind hEE q.2⟩, va_recv hK hP (ci := 9) (q0 := 1) rfl (xw_is (r := 1) (by omega) (xc_fix (r := 1) (by omega))), fun U hU hW => ⟨rfl, xPre.of hEE hP hK hE hS hU hW⟩⟩ rfl rfl hl.1 rfl (lv_room (Nat.le_of_ble_eq_true rfl)) dX11_feed_31 ⟨Nat.le_of_ble_eq_true rfl, Nat.le_of_ble_eq_true rfl⟩) hS (fun q _ h => XA.le hS.1 q h) (XA.le hS.1) (fun x t H locs ht hvm hw hB _ _ hS => ?_)
    have hP := xB.at ht hB
    clear hB ht hvm
    obtain ⟨st9, sl10, so11⟩ := x
    obtain ⟨hGst9, hLGst9, hOst9, hw⟩ := hw
    dsimp only at hGst9 hLGst9 hOst9 hw
    have hL : LGq sl sl10 := hL.tr hLGst9
    replace hOst9 := hOst9.symm
    subst hOst9
    have hP : va_P (dC, dI) vwCl (xw A C nb st9 sl10 so) _ := hP
    have hG : XG [2, 4, 5, 13, 15, 7, 12] st st9 := hG.tr hGst9 (by decide)
    obtain ⟨hf12, hf13, hf14⟩ := hw
    refine lv_aload_n hx hb dX11_feed_34 rfl (lv_at hl 0 rfl) ?_
    refine va_get (D := (dC, dI)) (ci := 10) (v := .ref (A 1)) (C := RX11) (T := TX11) (N := 19) hx hb hts ii_X11_feed_X11 hown hK hP 0 (xw_is (r := 0) (by omega) (xc_fix (r := 0) (by omega))) rfl 0 (by decide) (hts _ mm_X11_feed_1) (fun _ hh => hh) rfl dX11_feed_35 ?_
    refine lv_iload_n hx hb dX11_feed_38 rfl (lv_at hl 3 rfl) ?_
    refine va_callv (va_runV (As := [.int vc]) (rest := []) ⟨hx, hb, hml, hown, hts⟩ (x_X8_append l dC dI ad E hEE A C nb _ hN st9 sl10 so vc ((gt + 4) + 4)  hG.1 (by rw [hf12]) (by omega)) (cwV 1 hts gX11_feed_X8_append rfl rfl rfl (by decide +kernel) ⟨Nat.le_of_ble_eq_true rfl, Nat.le_of_ble_eq_true rfl⟩) ⟨fun a U g mk q => ⟨q.1, xPre.blind hEE q.2⟩, va_recv hK hP (ci := 9) (q0 := 1) rfl (xw_is (r := 1) (by omega) (xc_fix (r := 1) (by omega))), fun U hU hW => ⟨rfl, xPre.of hEE hP hK hE hS hU hW⟩⟩ rfl rfl hl.1 rfl (lv_room (Nat.le_of_ble_eq_true rfl)) dX11_feed_39 ⟨Nat.le_of_ble_eq_true rfl, Nat.le_of_ble_eq_true rfl⟩) hS (fun q _ h => XA.le hS.1 q h) (XA.le hS.1) (fun x t H locs ht hvm hw hB _ _ hS => ?_)
    have hP := xB.at ht hB
    clear hB ht hvm
    obtain ⟨st16, sl17, so18⟩ := x
    obtain ⟨hGst16, hLGst16, hOst16, hw⟩ := hw
    dsimp only at hGst16 hLGst16 hOst16 hw
    have hL : LGq sl sl17 := hL.tr hLGst16
    replace hOst16 := hOst16.symm
    subst hOst16
    have hP : va_P (dC, dI) vwCl (xw A C nb st16 sl17 so) _ := hP
    have hG : XG [2, 4, 5, 13, 15, 7, 12] st st16 := hG.tr hGst16 (by decide)
    obtain ⟨hf19, hf20, hf21⟩ := hw
    refine lv_aload_n hx hb dX11_feed_42 rfl (lv_at hl 0 rfl) ?_
    refine va_get (D := (dC, dI)) (ci := 10) (v := .ref (A 1)) (C := RX11) (T := TX11) (N := 19) hx hb hts ii_X11_feed_X11 hown hK hP 0 (xw_is (r := 0) (by omega) (xc_fix (r := 0) (by omega))) rfl 0 (by decide) (hts _ mm_X11_feed_1) (fun _ hh => hh) rfl dX11_feed_43 ?_
    refine lv_iload hx hb dX11_feed_46 (lv_at hl 4 rfl) ?_
    refine va_callv (va_runV (As := [.int vd]) (rest := []) ⟨hx, hb, hml, hown, hts⟩ (x_X8_append l dC dI ad E hEE A C nb _ hN st16 sl17 so vd (((gt + 4) + 4) + 4)  hG.1 (by rw [hf19]) (by omega)) (cwV 1 hts gX11_feed_X8_append rfl rfl rfl (by decide +kernel) ⟨Nat.le_of_ble_eq_true rfl, Nat.le_of_ble_eq_true rfl⟩) ⟨fun a U g mk q => ⟨q.1, xPre.blind hEE q.2⟩, va_recv hK hP (ci := 9) (q0 := 1) rfl (xw_is (r := 1) (by omega) (xc_fix (r := 1) (by omega))), fun U hU hW => ⟨rfl, xPre.of hEE hP hK hE hS hU hW⟩⟩ rfl rfl hl.1 rfl (lv_room (Nat.le_of_ble_eq_true rfl)) dX11_feed_48 ⟨Nat.le_of_ble_eq_true rfl, Nat.le_of_ble_eq_true rfl⟩) hS (fun q _ h => XA.le hS.1 q h) (XA.le hS.1) (fun x t H locs ht hvm hw hB _ _ hS => ?_)
    have hP := xB.at ht hB
    clear hB ht hvm
    obtain ⟨st23, sl24, so25⟩ := x
    obtain ⟨hGst23, hLGst23, hOst23, hw⟩ := hw
    dsimp only at hGst23 hLGst23 hOst23 hw
    have hL : LGq sl sl24 := hL.tr hLGst23
    replace hOst23 := hOst23.symm
    subst hOst23
    have hP : va_P (dC, dI) vwCl (xw A C nb st23 sl24 so) _ := hP
    have hG : XG [2, 4, 5, 13, 15, 7, 12] st st23 := hG.tr hGst23 (by decide)
    obtain ⟨hf26, hf27, hf28⟩ := hw
    refine lv_aload_n hx hb dX11_feed_51 rfl (lv_at hl 0 rfl) ?_
    refine va_get (D := (dC, dI)) (ci := 10) (v := .ref (A 1)) (C := RX11) (T := TX11) (N := 19) hx hb hts ii_X11_feed_X11 hown hK hP 0 (xw_is (r := 0) (by omega) (xc_fix (r := 0) (by omega))) rfl 0 (by decide) (hts _ mm_X11_feed_1) (fun _ hh => hh) rfl dX11_feed_52 ?_
    refine lv_iload hx hb dX11_feed_55 (lv_at hl 5 rfl) ?_
    refine va_callv (va_runV (As := [.int ve]) (rest := []) ⟨hx, hb, hml, hown, hts⟩ (x_X8_append l dC dI ad E hEE A C nb _ hN st23 sl24 so ve ((((gt + 4) + 4) + 4) + 4)  hG.1 (by rw [hf26]) (by omega)) (cwV 1 hts gX11_feed_X8_append rfl rfl rfl (by decide +kernel) ⟨Nat.le_of_ble_eq_true rfl, Nat.le_of_ble_eq_true rfl⟩) ⟨fun a U g mk q => ⟨q.1, xPre.blind hEE q.2⟩, va_recv hK hP (ci := 9) (q0 := 1) rfl (xw_is (r := 1) (by omega) (xc_fix (r := 1) (by omega))), fun U hU hW => ⟨rfl, xPre.of hEE hP hK hE hS hU hW⟩⟩ rfl rfl hl.1 rfl (lv_room (Nat.le_of_ble_eq_true rfl)) dX11_feed_57 ⟨Nat.le_of_ble_eq_true rfl, Nat.le_of_ble_eq_true rfl⟩) hS (fun q _ h => XA.le hS.1 q h) (XA.le hS.1) (fun x t H locs ht hvm hw hB _ _ hS => ?_)
    have hP := xB.at ht hB
    clear hB ht hvm
    obtain ⟨st30, sl31, so32⟩ := x
    obtain ⟨hGst30, hLGst30, hOst30, hw⟩ := hw
    dsimp only at hGst30 hLGst30 hOst30 hw
    have hL : LGq sl sl31 := hL.tr hLGst30
    replace hOst30 := hOst30.symm
    subst hOst30
    have hP : va_P (dC, dI) vwCl (xw A C nb st30 sl31 so) _ := hP
    have hG : XG [2, 4, 5, 13, 15, 7, 12] st st30 := hG.tr hGst30 (by decide)
    obtain ⟨hf33, hf34, hf35⟩ := hw
    refine lv_aload_n hx hb dX11_feed_60 rfl (lv_at hl 0 rfl) ?_
    refine va_get (D := (dC, dI)) (ci := 10) (v := .ref (A 1)) (C := RX11) (T := TX11) (N := 19) hx hb hts ii_X11_feed_X11 hown hK hP 0 (xw_is (r := 0) (by omega) (xc_fix (r := 0) (by omega))) rfl 0 (by decide) (hts _ mm_X11_feed_1) (fun _ hh => hh) rfl dX11_feed_61 ?_
    refine va_getN (host := "OffTheLead") (D := (dC, dI)) (ci := 9) (v := .int (st30 1 1)) (C := RX8) (T := TX8) (N := 15) hx hb hts ii_X11_feed_X8 hown hK hP 1 (xw_is (r := 1) (by omega) (xc_fix (r := 1) (by omega))) rfl 1 (by decide) (va_Nw.use rfl (nf_X11_100 hEv)) (fun _ hh => hh) rfl dX11_feed_64 ?_
    refine zz_top (v := (nI (((((gt + 4) + 4) + 4) + 4) + 4))) (by show st30 1 1 = _; rw [hf33]) ?_
    have hA8 : ∀ j, j < gt → st30 2 j = st 2 j := fun j hj => by
      rw [hf34 j (by omega), hf27 j (by omega), hf20 j (by omega), hf13 j (by omega), hf6 j (by omega)]
    have hB8 : ∀ j, j < 20 → st30 2 (gt + j) = sbt (fby va vb vc vd ve j) := fun j hj => by
      unfold fby
      by_cases c1 : j < 4
      · rw [if_pos c1, hf34 (gt + j) (by omega), hf27 (gt + j) (by omega), hf20 (gt + j) (by omega), hf13 (gt + j) (by omega), hf7 j (by omega)]
      · rw [if_neg c1]
        by_cases c2 : j < 8
        · rw [if_pos c2, hf34 (gt + j) (by omega), hf27 (gt + j) (by omega), hf20 (gt + j) (by omega), show gt + j = (gt + 4) + (j - 4) by omega, hf14 (j - 4) (by omega)]
        · rw [if_neg c2]
          by_cases c3 : j < 12
          · rw [if_pos c3, hf34 (gt + j) (by omega), hf27 (gt + j) (by omega), show gt + j = ((gt + 4) + 4) + (j - 8) by omega, hf21 (j - 8) (by omega)]
          · rw [if_neg c3]
            by_cases c4 : j < 16
            · rw [if_pos c4, hf34 (gt + j) (by omega), show gt + j = (((gt + 4) + 4) + 4) + (j - 12) by omega, hf28 (j - 12) (by omega)]
            · rw [if_neg c4]
              rw [show gt + j = ((((gt + 4) + 4) + 4) + 4) + (j - 16) by omega, hf35 (j - 16) (by omega)]
    exact W.iret (v := (nI (((((gt + 4) + 4) + 4) + 4) + 4))) hx hb hr (fun t ht hW => ⟨⟨(nI (((((gt + 4) + 4) + 4) + 4) + 4)), (st30, sl31, so), rfl, ⟨hG, hL, rfl, Or.inr ⟨(((((gt + 4) + 4) + 4) + 4) + 4), rfl, by omega, by omega, by show st30 1 1 = _; rw [hf33], hA8, hB8⟩⟩, xB.of ht hP⟩, hS.F ht⟩) hS.2.2 dX11_feed_67
  · have c1 : ¬ (gt + 20) ≤ 940 := fun hh => c1 ((nI_leI (a := (gt + 20)) (b := 940) (by omega) (by omega)).mpr hh)
    refine lv_iconst (v := (-1)) hx hb dX11_feed_16 (by decide) ?_
    exact W.iret (v := (-1)) hx hb hr (fun t ht hW => ⟨⟨(-1), (st, sl, so), rfl, ⟨hG, hL, rfl, Or.inl ⟨rfl, by omega, by show st 1 1 = _; rw [hgt], fun j => rfl⟩⟩, xB.of ht hP⟩, hS.F ht⟩) hS.2.2 dX11_feed_17
set_option maxHeartbeats 4000000 in
set_option maxRecDepth 100000 in
theorem x_X11_end (l : Launch) (dC : Nat → ClassId) (dI : Nat → Nat → Nat) (ad : Nat → Nat) (E : EP) (hEE : EC ad E) (A : Nat → Nat) (C : Nat → ClassId) (nb sz : Nat) (hN : XN A) (st : Nat → Nat → Int32) (sl : Nat → Nat → Int64) (so : Nat → XR) (va : Int32) (gt : Nat) (hI : XI st) (hgt : st 1 1 = nI gt) (hgt2 : gt < 941) : Met l yX11_end wsX11_end ({ frames := 0, cells := 0, slots := 0, locals := 0 }) (va_Pc [.ref (A 0), .int va] (xPre E dC dI A C nb sz st sl so)) (va_Qi (fun (r : Int32) (x : XT) => XG [2, 4, 5, 13, 15, 7, 12, 14] st x.1 ∧ LGq sl x.2.1 ∧ x.2.2 = so ∧ ((∃ n : Nat, r = 1 ∧ va = nI n ∧ n ≤ gt ∧ x.1 1 1 = nI n) ∨ (r = 0 ∧ (¬ ∃ n, n ≤ gt ∧ va = nI n) ∧ x.1 1 1 = nI gt))) (xB dC dI A C nb) (XA A sz)) 0 0 (XA A sz) := by
  refine Met.ofW (cc := cX11_end) (maxL := 2) (ret := (some .boolean)) (by decide) rfl ?_
  intro p e s m args below meth c s₁ B hml hv
  obtain ⟨rfl, hsz, hP, hK, hE⟩ := hv
  have hx := B.exec
  have hb := B.bytes
  have hr := B.returns
  have hts := atoms_spec (ws := wsX11_end) B.pre
  have hown : s.vm.findClass RX11 = some m.cls := findClass_of_methodNamed B.named
  subst hsz
  have hEv := hEE.1 _ _ _ hE
  have hS : va_S (XA A s.heap.size) s.heap s.heap [] := va_S.rf
  have hG : XG [2, 4, 5, 13, 15, 7, 12, 14] st st := XG.rf hI
  have hl := lv_entry ([.ref (A 0), .int va]) (n := 2) (Nat.le_of_ble_eq_true rfl)
  rw [lg_entry_eq]
  generalize (lg_sl ([.ref (A 0), .int va]) ++ List.replicate (2 - (lg_sl ([.ref (A 0), .int va])).length) Slot.unset).toArray = ls at hl ⊢
  have hl : lv_has ls 2 [(0, .ref (A 0)), (1, .int va)] := hl
  have hL : LGq sl sl := LGq.rf
  refine lv_iload_n hx hb dX11_end_0 rfl (lv_at hl 1 rfl) ?_
  refine lv_if_lt (tgt := 15) hx hb dX11_end_1 (by decide) (fun c1 => ?_) (fun c1 => ?_)
  · refine lv_iconst (v := 0) hx hb dX11_end_15 (by decide) ?_
    exact W.zret (v := 0) hx hb hr rfl (fun t ht hW => ⟨⟨0, (st, sl, so), rfl, ⟨hG, hL, rfl, Or.inr ⟨rfl, fun hh => by obtain ⟨jj, hk, rfl⟩ := hh; exact absurd c1 (nI_pos (by omega)), by show st 1 1 = _; rw [hgt]⟩⟩, xB.of ht hP⟩, hS.F ht⟩) hS.2.2 dX11_end_16
  · obtain ⟨jn, hjn, rfl⟩ := nI_of c1
    refine lv_iload_n hx hb dX11_end_4 rfl (lv_at hl 1 rfl) ?_
    refine lv_aload_n hx hb dX11_end_5 rfl (lv_at hl 0 rfl) ?_
    refine va_get (D := (dC, dI)) (ci := 10) (v := .ref (A 1)) (C := RX11) (T := TX11) (N := 19) hx hb hts ii_X11_end_X11 hown hK hP 0 (xw_is (r := 0) (by omega) (xc_fix (r := 0) (by omega))) rfl 0 (by decide) (hts _ mm_X11_end_1) (fun _ hh => hh) rfl dX11_end_6 ?_
    refine va_getN (host := "OffTheLead") (D := (dC, dI)) (ci := 9) (v := .int (st 1 1)) (C := RX8) (T := TX8) (N := 15) hx hb hts ii_X11_end_X8 hown hK hP 1 (xw_is (r := 1) (by omega) (xc_fix (r := 1) (by omega))) rfl 1 (by decide) (va_Nw.use rfl (nf_X11_100 hEv)) (fun _ hh => hh) rfl dX11_end_9 ?_
    refine zz_top (v := (nI gt)) (by show st 1 1 = _; rw [hgt]) ?_
    refine lv_icmp_le (tgt := 17) hx hb dX11_end_12 (by decide) (fun c2 => ?_) (fun c2 => ?_)
    · have c2 : jn ≤ gt := (nI_leI (a := jn) (b := gt) (by omega) (by omega)).mp c2
      refine lv_aload_n hx hb dX11_end_17 rfl (lv_at hl 0 rfl) ?_
      refine va_get (D := (dC, dI)) (ci := 10) (v := .ref (A 1)) (C := RX11) (T := TX11) (N := 19) hx hb hts ii_X11_end_X11 hown hK hP 0 (xw_is (r := 0) (by omega) (xc_fix (r := 0) (by omega))) rfl 0 (by decide) (hts _ mm_X11_end_1) (fun _ hh => hh) rfl dX11_end_18 ?_
      refine lv_iload_n hx hb dX11_end_21 rfl (lv_at hl 1 rfl) ?_
      refine va_putN (host := "OffTheLead") (D := (dC, dI)) (ci := 9) (v := .int (nI jn)) (ty := .int) (C := RX8) (T := TX8) (N := 15) hx hb hts ii_X11_end_X8 tyX8 tyX8_ok nmX8 hown hK hP (xD hN _ _ _ _ _ _) hS 1 (xw_is (r := 1) (by omega) (xc_fix (r := 1) (by omega))) rfl 1 (by decide) (va_Nw.use rfl (nf_X11_100 hEv)) (fun _ hh => hh) rfl (by decide +kernel) rfl rfl (Nat.le_of_ble_eq_true rfl) dX11_end_22 (fun H locs hP _ hS => ?_)
      have hP : va_P (dC, dI) vwCl (xw A C nb (up2 st 1 1 (nI jn)) sl so) H := by rw [← xset (r := 1) (k := 1) (v := (nI jn)) (xc_fix (r := 1) (by omega))]; exact hP
      obtain ⟨st1, est1⟩ : ∃ y, y = up2 st 1 1 (nI jn) := ⟨_, rfl⟩
      have hG : XG [2, 4, 5, 13, 15, 7, 12, 14] st st1 := by rw [est1]; exact hG.up (xn (n := jn) (b := 941) (by decide : xrg 1 1 = 941) (by omega)) (xpn (c := 1) (by decide : xcl 1 1 = 1) (by decide))
      rw [← est1] at hP
      refine lv_iconst (v := 1) hx hb dX11_end_25 (by decide) ?_
      exact W.zret (v := 1) hx hb hr rfl (fun t ht hW => ⟨⟨1, (st1, sl, so), rfl, ⟨hG, hL, rfl, Or.inl ⟨jn, rfl, rfl, by omega, by show st1 1 1 = _; rw [est1, up2_same]⟩⟩, xB.of ht hP⟩, hS.F ht⟩) hS.2.2 dX11_end_26
    · have c2 : ¬ jn ≤ gt := fun hh => c2 ((nI_leI (a := jn) (b := gt) (by omega) (by omega)).mpr hh)
      refine lv_iconst (v := 0) hx hb dX11_end_15 (by decide) ?_
      exact W.zret (v := 0) hx hb hr rfl (fun t ht hW => ⟨⟨0, (st, sl, so), rfl, ⟨hG, hL, rfl, Or.inr ⟨rfl, fun hh => by obtain ⟨jj, hk, ee⟩ := hh; have := (nI_eq (a := jn) (b := jj) (by omega) (by omega)).mp ee; omega, by show st 1 1 = _; rw [hgt]⟩⟩, xB.of ht hP⟩, hS.F ht⟩) hS.2.2 dX11_end_16
set_option maxHeartbeats 4000000 in
set_option maxRecDepth 100000 in
theorem x_X11_park (l : Launch) (dC : Nat → ClassId) (dI : Nat → Nat → Nat) (ad : Nat → Nat) (E : EP) (hEE : EC ad E) (A : Nat → Nat) (C : Nat → ClassId) (nb sz : Nat) (hN : XN A) (st : Nat → Nat → Int32) (sl : Nat → Nat → Int64) (so : Nat → XR) (hI : XI st) (hOI : OI ad so) (hSA : SKall ad st so) : Met l yX11_park wsX11_park ({ frames := 10, cells := 0, slots := 0, locals := 220 }) (va_Pc [.ref (A 0)] (xPre E dC dI A C nb sz st sl so)) (va_Qi (fun (r : Int32) (x : XT) => XG [2, 13, 14] st x.1 ∧ OG ad [4] so x.2.2 ∧ (x.1 1 1 = 0 ∧ SKall ad x.1 x.2.2)) (xB dC dI A C nb) (XA A sz)) 0 0 (XA A sz) := by
  refine Met.ofW (cc := cX11_park) (maxL := 2) (ret := (some .int)) (by decide) rfl ?_
  intro p e s m args below meth c s₁ B hml hv
  obtain ⟨rfl, hsz, hP, hK, hE⟩ := hv
  have hx := B.exec
  have hb := B.bytes
  have hr := B.returns
  have hts := atoms_spec (ws := wsX11_park) B.pre
  have hown : s.vm.findClass RX11 = some m.cls := findClass_of_methodNamed B.named
  subst hsz
  have hEv := hEE.1 _ _ _ hE
  have hS : va_S (XA A s.heap.size) s.heap s.heap [] := va_S.rf
  have hG : XG [2, 13, 14] st st := XG.rf hI
  have hO : OG ad [4] so so := OG.rf hOI
  have hl := lv_entry ([.ref (A 0)]) (n := 2) (Nat.le_of_ble_eq_true rfl)
  rw [lg_entry_eq]
  generalize (lg_sl ([.ref (A 0)]) ++ List.replicate (2 - (lg_sl ([.ref (A 0)])).length) Slot.unset).toArray = ls at hl ⊢
  have hl : lv_has ls 2 [(0, .ref (A 0))] := hl
  have hsa : SKall ad st so := hSA
  refine lv_aload_n hx hb dX11_park_0 rfl (lv_at hl 0 rfl) ?_
  refine va_get (D := (dC, dI)) (ci := 10) (v := .ref (A 1)) (C := RX11) (T := TX11) (N := 19) hx hb hts ii_X11_park_X11 hown hK hP 0 (xw_is (r := 0) (by omega) (xc_fix (r := 0) (by omega))) rfl 0 (by decide) (hts _ mm_X11_park_1) (fun _ hh => hh) rfl dX11_park_1 ?_
  refine lv_sipush (v := 900) hx hb dX11_park_4 (by decide) ?_
  refine va_callv (va_runV (As := [.int 900]) (rest := []) ⟨hx, hb, hml, hown, hts⟩ (x_X8_open l dC dI ad E hEE A C nb _ hN st sl so 900 (by omega) hG.1 hO.1) (cwV 1 hts gX11_park_X8_open rfl rfl rfl (by decide +kernel) ⟨Nat.le_of_ble_eq_true rfl, Nat.le_of_ble_eq_true rfl⟩) ⟨fun a U g mk q => ⟨q.1, xPre.blind hEE q.2⟩, va_recv hK hP (ci := 9) (q0 := 1) rfl (xw_is (r := 1) (by omega) (xc_fix (r := 1) (by omega))), fun U hU hW => ⟨rfl, xPre.of hEE hP hK hE hS hU hW⟩⟩ rfl rfl hl.1 rfl (lv_room (Nat.le_of_ble_eq_true rfl)) dX11_park_7 ⟨Nat.le_of_ble_eq_true rfl, Nat.le_of_ble_eq_true rfl⟩) hS (fun q _ h => XA.le hS.1 q h) (XA.le hS.1) (fun x t H locs ht hvm hw hB _ _ hS => ?_)
  have hP := xB.at ht hB
  clear hB ht hvm
  obtain ⟨st2, sl3, so4⟩ := x
  obtain ⟨hGst2, hLGst2, hOst2, hw⟩ := hw
  dsimp only at hGst2 hLGst2 hOst2 hw
  have hO : OG ad [4] so so4 := hO.tr hOst2 (by decide)
  have hP : va_P (dC, dI) vwCl (xw A C nb st2 sl3 so4) _ := hP
  have hG : XG [2, 13, 14] st st2 := hG.tr hGst2 (by decide)
  have hf5 := hw
  have hsa : SKall ad st2 so4 := SKall.mg hsa hGst2 hOst2 (by decide) (by decide) (by decide)
  refine lv_aload_n hx hb dX11_park_10 rfl (lv_at hl 0 rfl) ?_
  refine va_get (D := (dC, dI)) (ci := 10) (v := .ref (A 3)) (C := RX11) (T := TX11) (N := 19) hx hb hts ii_X11_park_X11 hown hK hP 0 (xw_is (r := 0) (by omega) (xc_fix (r := 0) (by omega))) rfl 3 (by decide) (hts _ mm_X11_park_2) (fun _ hh => hh) rfl dX11_park_11 ?_
  refine lv_aload_n hx hb dX11_park_14 rfl (lv_at hl 0 rfl) ?_
  refine va_get (D := (dC, dI)) (ci := 10) (v := .ref (A 1)) (C := RX11) (T := TX11) (N := 19) hx hb hts ii_X11_park_X11 hown hK hP 0 (xw_is (r := 0) (by omega) (xc_fix (r := 0) (by omega))) rfl 0 (by decide) (hts _ mm_X11_park_1) (fun _ hh => hh) rfl dX11_park_15 ?_
  refine lv_aload_n hx hb dX11_park_18 rfl (lv_at hl 0 rfl) ?_
  refine va_get (D := (dC, dI)) (ci := 10) (v := .ref (A (36 + 20 * 1))) (C := RX11) (T := TX11) (N := 19) hx hb hts ii_X11_park_X11 hown hK hP 0 (xw_is (r := 0) (by omega) (xc_fix (r := 0) (by omega))) rfl 2 (by decide) (hts _ mm_X11_park_3) (fun _ hh => hh) rfl dX11_park_19 ?_
  refine va_calli (va_runV (As := [.ref (A 1), .ref (A (36 + 20 * 1))]) (rest := []) ⟨hx, hb, hml, hown, hts⟩ (x_X5_readAll l dC dI ad E hEE A C nb _ hN st2 sl3 so4  hG.1 hO.1) (cwV 2 hts gX11_park_X5_readAll rfl rfl rfl (by decide +kernel) ⟨Nat.le_of_ble_eq_true rfl, Nat.le_of_ble_eq_true rfl⟩) ⟨fun a U g mk q => ⟨q.1, xPre.blind hEE q.2⟩, va_recv hK hP (ci := 6) (q0 := 3) rfl (xw_is (r := 3) (by omega) (xc_fix (r := 3) (by omega))), fun U hU hW => ⟨rfl, xPre.of hEE hP hK hE hS hU hW⟩⟩ rfl rfl hl.1 rfl (lv_room (Nat.le_of_ble_eq_true rfl)) dX11_park_22 ⟨Nat.le_of_ble_eq_true rfl, Nat.le_of_ble_eq_true rfl⟩) hS (fun q _ h => XA.le hS.1 q h) (XA.le hS.1) (fun r6 x t H locs ht hvm hw hB _ _ hS => ?_)
  have hP := xB.at ht hB
  clear hB ht hvm
  obtain ⟨st7, sl8, so9⟩ := x
  obtain ⟨hGst7, hOst7, hw⟩ := hw
  dsimp only at hGst7 hOst7 hw
  have hO : OG ad [4] so so9 := hO.tr hOst7 (by decide)
  have hP : va_P (dC, dI) vwCl (xw A C nb st7 sl8 so9) _ := hP
  have hG : XG [2, 13, 14] st st7 := hG.tr hGst7 (by decide)
  clear hw
  have hsa : SKall ad st7 so9 := SKall.mg hsa hGst7 hOst7 (by decide) (by decide) (by decide)
  refine lv_istore_n (lv' := [(1, .int r6), (0, .ref (A 0))]) hx hb dX11_park_25 rfl hl (by decide) rfl (fun ls hl => ?_)
  refine lv_aload_n hx hb dX11_park_26 rfl (lv_at hl 1 rfl) ?_
  refine va_callv (va_runV (As := []) (rest := []) ⟨hx, hb, hml, hown, hts⟩ (x_X11_closeTape l dC dI ad E hEE A C nb _ hN st7 sl8 so9  hG.1) (cwV 0 hts gX11_park_X11_closeTape rfl rfl rfl (by decide +kernel) ⟨Nat.le_of_ble_eq_true rfl, Nat.le_of_ble_eq_true rfl⟩) ⟨fun a U g mk q => ⟨q.1, xPre.blind hEE q.2⟩, va_recv hK hP (ci := 10) (q0 := 0) rfl (xw_is (r := 0) (by omega) (xc_fix (r := 0) (by omega))), fun U hU hW => ⟨rfl, xPre.of hEE hP hK hE hS hU hW⟩⟩ rfl rfl hl.1 rfl (lv_room (Nat.le_of_ble_eq_true rfl)) dX11_park_27 ⟨Nat.le_of_ble_eq_true rfl, Nat.le_of_ble_eq_true rfl⟩) hS (fun q _ h => XA.le hS.1 q h) (XA.le hS.1) (fun x t H locs ht hvm hw hB _ _ hS => ?_)
  have hP := xB.at ht hB
  clear hB ht hvm
  obtain ⟨st11, sl12, so13⟩ := x
  obtain ⟨hGst11, hLGst11, hOst11, hw⟩ := hw
  dsimp only at hGst11 hLGst11 hOst11 hw
  replace hOst11 := hOst11.symm
  subst hOst11
  have hP : va_P (dC, dI) vwCl (xw A C nb st11 sl12 so9) _ := hP
  have hG : XG [2, 13, 14] st st11 := hG.tr hGst11 (by decide)
  obtain ⟨hf14, hf15⟩ := hw
  have hsa : SKall ad st11 so9 := SKall.mgs hsa hGst11 (by decide) (by decide)
  refine lv_aload_n hx hb dX11_park_30 rfl (lv_at hl 1 rfl) ?_
  refine va_get (D := (dC, dI)) (ci := 10) (v := .int (st11 0 16)) (C := RX11) (T := TX11) (N := 19) hx hb hts ii_X11_park_X11 hown hK hP 0 (xw_is (r := 0) (by omega) (xc_fix (r := 0) (by omega))) rfl 16 (by decide) (hts _ mm_X11_park_4) (fun _ hh => hh) rfl dX11_park_31 ?_
  obtain ⟨z16, ez16⟩ : ∃ y : Int32, st11 0 16 = y := ⟨_, rfl⟩
  refine zz_top (v := z16) (by exact ez16) ?_
  refine lv_if_eq (tgt := 47) hx hb dX11_park_34 (by decide) (fun c1 => ?_) (fun c1 => ?_)
  · refine lv_aload_n hx hb dX11_park_47 rfl (lv_at hl 1 rfl) ?_
    refine va_get (D := (dC, dI)) (ci := 10) (v := .ref (A (36 + 20 * 0))) (C := RX11) (T := TX11) (N := 19) hx hb hts ii_X11_park_X11 hown hK hP 0 (xw_is (r := 0) (by omega) (xc_fix (r := 0) (by omega))) rfl 1 (by decide) (hts _ mm_X11_park_5) (fun _ hh => hh) rfl dX11_park_48 ?_
    refine lv_aload_n hx hb dX11_park_51 rfl (lv_at hl 1 rfl) ?_
    refine va_get (D := (dC, dI)) (ci := 10) (v := .ref (A (36 + 20 * 1))) (C := RX11) (T := TX11) (N := 19) hx hb hts ii_X11_park_X11 hown hK hP 0 (xw_is (r := 0) (by omega) (xc_fix (r := 0) (by omega))) rfl 2 (by decide) (hts _ mm_X11_park_3) (fun _ hh => hh) rfl dX11_park_52 ?_
    refine va_callv (va_runV (As := [.ref (A (36 + 20 * 1))]) (rest := []) ⟨hx, hb, hml, hown, hts⟩ (x_X4_copyFrom l dC dI ad E hEE A C nb _ hN st11 sl12 so9 0 1 (by omega) (by omega) hG.1 (by omega)) (cwV 1 hts gX11_park_X4_copyFrom rfl rfl rfl (by decide +kernel) ⟨Nat.le_of_ble_eq_true rfl, Nat.le_of_ble_eq_true rfl⟩) ⟨fun a U g mk q => ⟨q.1, xPre.blind hEE q.2⟩, va_recv hK hP (ci := 5) (q0 := (36 + 20 * 0)) rfl (xw_is (r := (36 + 20 * 0)) (by omega) (xc_pk (i := 0) (o := 0) (by omega) (by omega))), fun U hU hW => ⟨rfl, xPre.of hEE hP hK hE hS hU hW⟩⟩ rfl rfl hl.1 rfl (lv_room (Nat.le_of_ble_eq_true rfl)) dX11_park_55 ⟨Nat.le_of_ble_eq_true rfl, Nat.le_of_ble_eq_true rfl⟩) hS (fun q _ h => XA.le hS.1 q h) (XA.le hS.1) (fun x t H locs ht hvm hw hB _ _ hS => ?_)
    have hP := xB.at ht hB
    clear hB ht hvm
    obtain ⟨st18, sl19, so20⟩ := x
    obtain ⟨hGst18, hOst18, hw⟩ := hw
    dsimp only at hGst18 hOst18 hw
    replace hOst18 := hOst18.symm
    subst hOst18
    have hP : va_P (dC, dI) vwCl (xw A C nb st18 sl19 so9) _ := hP
    have hG : XG [2, 13, 14] st st18 := hG.tr hGst18 (by decide)
    have hf21 := hw
    have hsa : SKall ad st18 so9 := SKall.mgs hsa hGst18 (by decide) (by decide)
    refine lv_aload_n hx hb dX11_park_58 rfl (lv_at hl 1 rfl) ?_
    refine va_get (D := (dC, dI)) (ci := 10) (v := .ref (A (20 + 4 * 0))) (C := RX11) (T := TX11) (N := 19) hx hb hts ii_X11_park_X11 hown hK hP 0 (xw_is (r := 0) (by omega) (xc_fix (r := 0) (by omega))) rfl 5 (by decide) (hts _ mm_X11_park_6) (fun _ hh => hh) rfl dX11_park_59 ?_
    refine va_callv (va_runV (As := []) (rest := []) ⟨hx, hb, hml, hown, hts⟩ (x_clear0b l dC dI ad E hEE A C nb _ hN st18 sl19 so9  hG.1) (cwV 0 hts gX11_park_X7_clear rfl rfl rfl (by decide +kernel) ⟨Nat.le_of_ble_eq_true rfl, Nat.le_of_ble_eq_true rfl⟩) ⟨fun a U g mk q => ⟨q.1, xPre.blind hEE q.2⟩, va_recv hK hP (ci := 8) (q0 := (20 + 4 * 0)) rfl (xw_is (r := (20 + 4 * 0)) (by omega) (xc_sn (q := 0) (o := 0) (by omega) (by omega))), fun U hU hW => ⟨rfl, xPre.of hEE hP hK hE hS hU hW⟩⟩ rfl rfl hl.1 rfl (lv_room (Nat.le_of_ble_eq_true rfl)) dX11_park_62 ⟨Nat.le_of_ble_eq_true rfl, Nat.le_of_ble_eq_true rfl⟩) hS (fun q _ h => XA.le hS.1 q h) (XA.le hS.1) (fun x t H locs ht hvm hw hB _ _ hS => ?_)
    have hP := xB.at ht hB
    clear hB ht hvm
    obtain ⟨st23, sl24, so25⟩ := x
    obtain ⟨hGst23, hLGst23, hOst23, hw⟩ := hw
    dsimp only at hGst23 hLGst23 hOst23 hw
    replace hOst23 := hOst23.symm
    subst hOst23
    have hP : va_P (dC, dI) vwCl (xw A C nb st23 sl24 so9) _ := hP
    have hG : XG [2, 13, 14] st st23 := hG.tr hGst23 (by decide)
    obtain ⟨hf26, hf27⟩ := hw
    have hsa : SKall ad st23 so9 := fun q9 h8 h9 => if e9 : q9 = 0 then by subst e9; exact SKs.zero hf26 else hf27 q9 h8 e9 (hsa q9 h8 h9)
    refine lv_aload_n hx hb dX11_park_65 rfl (lv_at hl 1 rfl) ?_
    refine va_get (D := (dC, dI)) (ci := 10) (v := .ref (A 11)) (C := RX11) (T := TX11) (N := 19) hx hb hts ii_X11_park_X11 hown hK hP 0 (xw_is (r := 0) (by omega) (xc_fix (r := 0) (by omega))) rfl 8 (by decide) (hts _ mm_X11_park_7) (fun _ hh => hh) rfl dX11_park_66 ?_
    refine va_callv (va_runV (As := []) (rest := []) ⟨hx, hb, hml, hown, hts⟩ (x_X3_forget l dC dI ad E hEE A C nb _ hN st23 sl24 so9  hG.1) (cwV 0 hts gX11_park_X3_forget rfl rfl rfl (by decide +kernel) ⟨Nat.le_of_ble_eq_true rfl, Nat.le_of_ble_eq_true rfl⟩) ⟨fun a U g mk q => ⟨q.1, xPre.blind hEE q.2⟩, va_recv hK hP (ci := 4) (q0 := 11) rfl (xw_is (r := 11) (by omega) (xc_fix (r := 11) (by omega))), fun U hU hW => ⟨rfl, xPre.of hEE hP hK hE hS hU hW⟩⟩ rfl rfl hl.1 rfl (lv_room (Nat.le_of_ble_eq_true rfl)) dX11_park_69 ⟨Nat.le_of_ble_eq_true rfl, Nat.le_of_ble_eq_true rfl⟩) hS (fun q _ h => XA.le hS.1 q h) (XA.le hS.1) (fun x t H locs ht hvm hw hB _ _ hS => ?_)
    have hP := xB.at ht hB
    clear hB ht hvm
    obtain ⟨st29, sl30, so31⟩ := x
    obtain ⟨hGst29, hLGst29, hOst29, hw⟩ := hw
    dsimp only at hGst29 hLGst29 hOst29 hw
    replace hOst29 := hOst29.symm
    subst hOst29
    have hP : va_P (dC, dI) vwCl (xw A C nb st29 sl30 so9) _ := hP
    have hG : XG [2, 13, 14] st st29 := hG.tr hGst29 (by decide)
    have hf32 := hw
    have hsa : SKall ad st29 so9 := SKall.mgs hsa hGst29 (by decide) (by decide)
    refine lv_iload_n hx hb dX11_park_72 rfl (lv_at hl 0 rfl) ?_
    exact W.iret (v := r6) hx hb hr (fun t ht hW => ⟨⟨r6, (st29, sl30, so9), rfl, ⟨hG, hO, ⟨by show st29 1 1 = 0; rw [hGst29.2 1 1 (by rw [(by decide : xcl 1 1 = 1)]; decide), hGst23.2 1 1 (by rw [(by decide : xcl 1 1 = 1)]; decide), hGst18.2 1 1 (by rw [(by decide : xcl 1 1 = 1)]; decide), hf14], hsa⟩⟩, xB.of ht hP⟩, hS.F ht⟩) hS.2.2 dX11_park_73
  · refine lv_iconst (v := (-1)) hx hb dX11_park_37 (by decide) ?_
    refine lv_aload_n hx hb dX11_park_38 rfl (lv_at hl 1 rfl) ?_
    refine va_get (D := (dC, dI)) (ci := 10) (v := .ref (A 1)) (C := RX11) (T := TX11) (N := 19) hx hb hts ii_X11_park_X11 hown hK hP 0 (xw_is (r := 0) (by omega) (xc_fix (r := 0) (by omega))) rfl 0 (by decide) (hts _ mm_X11_park_1) (fun _ hh => hh) rfl dX11_park_39 ?_
    refine va_getN (host := "OffTheLead") (D := (dC, dI)) (ci := 9) (v := .int (st11 1 14)) (C := RX8) (T := TX8) (N := 15) hx hb hts ii_X11_park_X8 hown hK hP 1 (xw_is (r := 1) (by omega) (xc_fix (r := 1) (by omega))) rfl 14 (by decide) (va_Nw.use rfl (nf_X11_120 hEv)) (fun _ hh => hh) rfl dX11_park_42 ?_
    obtain ⟨z33, ez33⟩ : ∃ y : Int32, st11 1 14 = y := ⟨_, rfl⟩
    refine zz_top (v := z33) (by exact ez33) ?_
    refine lv_isub hx hb dX11_park_45 ?_
    refine lv_topi (fun z34 ez34 => ?_)
    clear ez34
    exact W.iret (v := z34) hx hb hr (fun t ht hW => ⟨⟨z34, (st11, sl12, so9), rfl, ⟨hG, hO, ⟨by show st11 1 1 = 0; rw [hf14], hsa⟩⟩, xB.of ht hP⟩, hS.F ht⟩) hS.2.2 dX11_park_46
set_option maxHeartbeats 4000000 in
set_option maxRecDepth 100000 in
theorem x_X11_fault (l : Launch) (dC : Nat → ClassId) (dI : Nat → Nat → Nat) (ad : Nat → Nat) (E : EP) (hEE : EC ad E) (A : Nat → Nat) (C : Nat → ClassId) (nb sz : Nat) (hN : XN A) (st : Nat → Nat → Int32) (sl : Nat → Nat → Int64) (so : Nat → XR) (hI : XI st) : Met l yX11_fault wsX11_fault ({ frames := 0, cells := 0, slots := 0, locals := 0 }) (va_Pc [.ref (A 0)] (xPre E dC dI A C nb sz st sl so)) (va_Qi (fun (r : Int32) (x : XT) => XG [1, 2, 4, 5, 13, 15, 7, 12, 14] st x.1 ∧ LGq sl x.2.1 ∧ x.2.2 = so ∧ (r = st 0 16)) (xB dC dI A C nb) (XA A sz)) 0 0 (XA A sz) := by
  refine Met.ofW (cc := cX11_fault) (maxL := 1) (ret := (some .int)) (by decide) rfl ?_
  intro p e s m args below meth c s₁ B hml hv
  obtain ⟨rfl, hsz, hP, hK, hE⟩ := hv
  have hx := B.exec
  have hb := B.bytes
  have hr := B.returns
  have hts := atoms_spec (ws := wsX11_fault) B.pre
  have hown : s.vm.findClass RX11 = some m.cls := findClass_of_methodNamed B.named
  subst hsz
  have hEv := hEE.1 _ _ _ hE
  have hS : va_S (XA A s.heap.size) s.heap s.heap [] := va_S.rf
  have hG : XG [1, 2, 4, 5, 13, 15, 7, 12, 14] st st := XG.rf hI
  have hl := lv_entry ([.ref (A 0)]) (n := 1) (Nat.le_of_ble_eq_true rfl)
  rw [lg_entry_eq]
  generalize (lg_sl ([.ref (A 0)]) ++ List.replicate (1 - (lg_sl ([.ref (A 0)])).length) Slot.unset).toArray = ls at hl ⊢
  have hl : lv_has ls 1 [(0, .ref (A 0))] := hl
  have hL : LGq sl sl := LGq.rf
  refine lv_aload_n hx hb dX11_fault_0 rfl (lv_at hl 0 rfl) ?_
  refine va_get (D := (dC, dI)) (ci := 10) (v := .int (st 0 16)) (C := RX11) (T := TX11) (N := 19) hx hb hts ii_X11_fault_X11 hown hK hP 0 (xw_is (r := 0) (by omega) (xc_fix (r := 0) (by omega))) rfl 16 (by decide) (hts _ mm_X11_fault_1) (fun _ hh => hh) rfl dX11_fault_1 ?_
  obtain ⟨z1, ez1⟩ : ∃ y : Int32, st 0 16 = y := ⟨_, rfl⟩
  refine zz_top (v := z1) (by exact ez1) ?_
  exact W.iret (v := z1) hx hb hr (fun t ht hW => ⟨⟨z1, (st, sl, so), rfl, ⟨hG, hL, rfl, ez1.symm⟩, xB.of ht hP⟩, hS.F ht⟩) hS.2.2 dX11_fault_4
set_option maxHeartbeats 4000000 in
set_option maxRecDepth 100000 in
theorem x_X11_place (l : Launch) (dC : Nat → ClassId) (dI : Nat → Nat → Nat) (ad : Nat → Nat) (E : EP) (hEE : EC ad E) (A : Nat → Nat) (C : Nat → ClassId) (nb sz : Nat) (hN : XN A) (st : Nat → Nat → Int32) (sl : Nat → Nat → Int64) (so : Nat → XR) (va : Int32) (vb : Int32) (hI : XI st) : Met l yX11_place wsX11_place ({ frames := 1, cells := 0, slots := 0, locals := 23 }) (va_Pc [.ref (A 0), .int va, .int vb] (xPre E dC dI A C nb sz st sl so)) (va_Qi (fun (r : Int32) (x : XT) => XG [1, 2, 4, 5, 13, 15, 7, 12, 14] st x.1 ∧ LGq sl x.2.1 ∧ x.2.2 = so ∧ (True)) (xB dC dI A C nb) (XA A sz)) 0 0 (XA A sz) := by
  refine Met.ofW (cc := cX11_place) (maxL := 3) (ret := (some .int)) (by decide) rfl ?_
  intro p e s m args below meth c s₁ B hml hv
  obtain ⟨rfl, hsz, hP, hK, hE⟩ := hv
  have hx := B.exec
  have hb := B.bytes
  have hr := B.returns
  have hts := atoms_spec (ws := wsX11_place) B.pre
  have hown : s.vm.findClass RX11 = some m.cls := findClass_of_methodNamed B.named
  subst hsz
  have hEv := hEE.1 _ _ _ hE
  have hS : va_S (XA A s.heap.size) s.heap s.heap [] := va_S.rf
  have hG : XG [1, 2, 4, 5, 13, 15, 7, 12, 14] st st := XG.rf hI
  have hl := lv_entry ([.ref (A 0), .int va, .int vb]) (n := 3) (Nat.le_of_ble_eq_true rfl)
  rw [lg_entry_eq]
  generalize (lg_sl ([.ref (A 0), .int va, .int vb]) ++ List.replicate (3 - (lg_sl ([.ref (A 0), .int va, .int vb])).length) Slot.unset).toArray = ls at hl ⊢
  have hl : lv_has ls 3 [(0, .ref (A 0)), (1, .int va), (2, .int vb)] := hl
  have hL : LGq sl sl := LGq.rf
  refine lv_aload_n hx hb dX11_place_0 rfl (lv_at hl 0 rfl) ?_
  refine va_get (D := (dC, dI)) (ci := 10) (v := .ref (A (36 + 20 * 0))) (C := RX11) (T := TX11) (N := 19) hx hb hts ii_X11_place_X11 hown hK hP 0 (xw_is (r := 0) (by omega) (xc_fix (r := 0) (by omega))) rfl 1 (by decide) (hts _ mm_X11_place_1) (fun _ hh => hh) rfl dX11_place_1 ?_
  refine lv_iload_n hx hb dX11_place_4 rfl (lv_at hl 1 rfl) ?_
  refine va_calli (va_runV (As := [.int va]) (rest := []) ⟨hx, hb, hml, hown, hts⟩ (x_X4_hasPlace l dC dI ad E hEE A C nb _ hN st sl so 0 va (by omega) hG.1) (cwV 1 hts gX11_place_X4_hasPlace rfl rfl rfl (by decide +kernel) ⟨Nat.le_of_ble_eq_true rfl, Nat.le_of_ble_eq_true rfl⟩) ⟨fun a U g mk q => ⟨q.1, xPre.blind hEE q.2⟩, va_recv hK hP (ci := 5) (q0 := (36 + 20 * 0)) rfl (xw_is (r := (36 + 20 * 0)) (by omega) (xc_pk (i := 0) (o := 0) (by omega) (by omega))), fun U hU hW => ⟨rfl, xPre.of hEE hP hK hE hS hU hW⟩⟩ rfl rfl hl.1 rfl (lv_room (Nat.le_of_ble_eq_true rfl)) dX11_place_5 ⟨Nat.le_of_ble_eq_true rfl, Nat.le_of_ble_eq_true rfl⟩) hS (fun q _ h => XA.le hS.1 q h) (XA.le hS.1) (fun r1 x t H locs ht hvm hw hB _ _ hS => ?_)
  have hP := xB.at ht hB
  clear hB ht hvm
  obtain ⟨rfl, hw⟩ := hw
  have hP : va_P (dC, dI) vwCl (xw A C nb st sl so) _ := hP
  rcases hw with ⟨n2, rfl, hf3, rfl⟩ | rfl
  · refine lv_if_ne (tgt := 13) hx hb dX11_place_8 (by decide) (fun _ => ?_) (fun cc => absurd cc (by decide))
    refine lv_iload_n hx hb dX11_place_13 rfl (lv_at hl 2 rfl) ?_
    by_cases cw4 : vb = 0
    · subst cw4
      refine lv_tableIn (tgt := 40) hx hb dX11_place_14 (by decide) (by decide) rfl (by decide) ?_
      refine lv_aload_n hx hb dX11_place_40 rfl (lv_at hl 0 rfl) ?_
      refine va_get (D := (dC, dI)) (ci := 10) (v := .ref (A (36 + 20 * 0))) (C := RX11) (T := TX11) (N := 19) hx hb hts ii_X11_place_X11 hown hK hP 0 (xw_is (r := 0) (by omega) (xc_fix (r := 0) (by omega))) rfl 1 (by decide) (hts _ mm_X11_place_1) (fun _ hh => hh) rfl dX11_place_41 ?_
      refine va_getN (host := "OffTheLead") (D := (dC, dI)) (ci := 5) (v := .ref (A (36 + 20 * 0 + 2))) (C := RX4) (T := TX4) (N := 12) hx hb hts ii_X11_place_X4 hown hK hP (36 + 20 * 0) (xw_is (r := (36 + 20 * 0)) (by omega) (xc_pk (i := 0) (o := 0) (by omega) (by omega))) rfl 1 (by decide) (va_Nw.use rfl (nf_X11_202 hEv)) (fun _ hh => hh) rfl dX11_place_44 ?_
      refine lv_iload_n hx hb dX11_place_47 rfl (lv_at hl 1 rfl) ?_
      refine va_iald hx hb hK hP (36 + 20 * 0 + 2) (36 + 20 * 0 + 2) (xw_is (r := (36 + 20 * 0 + 2)) (by omega) (xc_pk (i := 0) (o := 2) (by omega) (by omega))) (xt_is (r := (36 + 20 * 0 + 2)) (by omega) ((xty_pk (i := 0) (o := 2) (by omega)).trans rfl)) (i := (nI n2)) (vp_in_nI (by omega) (by decide)) dX11_place_48 ?_
      obtain ⟨z5, ez5⟩ : ∃ y : Int32, st (36 + 20 * 0 + 2) n2 = y := ⟨_, rfl⟩
      refine zz_top (v := z5) (by rw [nI_clamp (by omega)]; exact ez5) ?_
      exact W.iret (v := z5) hx hb hr (fun t ht hW => ⟨⟨z5, (st, sl, so), rfl, ⟨hG, hL, rfl, trivial⟩, xB.of ht hP⟩, hS.F ht⟩) hS.2.2 dX11_place_49
    by_cases cw6 : vb = 1
    · subst cw6
      refine lv_tableIn (tgt := 50) hx hb dX11_place_14 (by decide) (by decide) rfl (by decide) ?_
      refine lv_aload_n hx hb dX11_place_50 rfl (lv_at hl 0 rfl) ?_
      refine va_get (D := (dC, dI)) (ci := 10) (v := .ref (A (36 + 20 * 0))) (C := RX11) (T := TX11) (N := 19) hx hb hts ii_X11_place_X11 hown hK hP 0 (xw_is (r := 0) (by omega) (xc_fix (r := 0) (by omega))) rfl 1 (by decide) (hts _ mm_X11_place_1) (fun _ hh => hh) rfl dX11_place_51 ?_
      refine va_getN (host := "OffTheLead") (D := (dC, dI)) (ci := 5) (v := .ref (A (36 + 20 * 0 + 3))) (C := RX4) (T := TX4) (N := 12) hx hb hts ii_X11_place_X4 hown hK hP (36 + 20 * 0) (xw_is (r := (36 + 20 * 0)) (by omega) (xc_pk (i := 0) (o := 0) (by omega) (by omega))) rfl 2 (by decide) (va_Nw.use rfl (nf_X11_205 hEv)) (fun _ hh => hh) rfl dX11_place_54 ?_
      refine lv_iload_n hx hb dX11_place_57 rfl (lv_at hl 1 rfl) ?_
      refine va_zald hx hb hK hP (36 + 20 * 0 + 3) (36 + 20 * 0 + 3) (xw_is (r := (36 + 20 * 0 + 3)) (by omega) (xc_pk (i := 0) (o := 3) (by omega) (by omega))) (xt_is (r := (36 + 20 * 0 + 3)) (by omega) ((xty_pk (i := 0) (o := 3) (by omega)).trans rfl)) (i := (nI n2)) (vp_in_nI (by omega) (by decide)) dX11_place_58 ?_
      obtain ⟨z7, ez7⟩ : ∃ y : Int32, st (36 + 20 * 0 + 3) n2 = y := ⟨_, rfl⟩
      refine zz_top (v := z7) (by rw [nI_clamp (by omega)]; exact ez7) ?_
      refine lv_if_eq (tgt := 66) hx hb dX11_place_59 (by decide) (fun c2 => ?_) (fun c2 => ?_)
      · refine lv_iconst (v := 0) hx hb dX11_place_66 (by decide) ?_
        exact W.iret (v := 0) hx hb hr (fun t ht hW => ⟨⟨0, (st, sl, so), rfl, ⟨hG, hL, rfl, trivial⟩, xB.of ht hP⟩, hS.F ht⟩) hS.2.2 dX11_place_67
      · refine lv_iconst (v := 1) hx hb dX11_place_62 (by decide) ?_
        refine lv_goto (tgt := 67) hx hb dX11_place_63 (by decide) ?_
        exact W.iret (v := 1) hx hb hr (fun t ht hW => ⟨⟨1, (st, sl, so), rfl, ⟨hG, hL, rfl, trivial⟩, xB.of ht hP⟩, hS.F ht⟩) hS.2.2 dX11_place_67
    by_cases cw8 : vb = 2
    · subst cw8
      refine lv_tableIn (tgt := 68) hx hb dX11_place_14 (by decide) (by decide) rfl (by decide) ?_
      refine lv_aload_n hx hb dX11_place_68 rfl (lv_at hl 0 rfl) ?_
      refine va_get (D := (dC, dI)) (ci := 10) (v := .ref (A (36 + 20 * 0))) (C := RX11) (T := TX11) (N := 19) hx hb hts ii_X11_place_X11 hown hK hP 0 (xw_is (r := 0) (by omega) (xc_fix (r := 0) (by omega))) rfl 1 (by decide) (hts _ mm_X11_place_1) (fun _ hh => hh) rfl dX11_place_69 ?_
      refine lv_iload_n hx hb dX11_place_72 rfl (lv_at hl 1 rfl) ?_
      refine va_calli (va_runV (As := [.int (nI n2)]) (rest := []) ⟨hx, hb, hml, hown, hts⟩ (x_X4_comersTo l dC dI ad E hEE A C nb _ hN st sl so 0 (nI n2) (by omega) hG.1) (cwV 1 hts gX11_place_X4_comersTo rfl rfl rfl (by decide +kernel) ⟨Nat.le_of_ble_eq_true rfl, Nat.le_of_ble_eq_true rfl⟩) ⟨fun a U g mk q => ⟨q.1, xPre.blind hEE q.2⟩, va_recv hK hP (ci := 5) (q0 := (36 + 20 * 0)) rfl (xw_is (r := (36 + 20 * 0)) (by omega) (xc_pk (i := 0) (o := 0) (by omega) (by omega))), fun U hU hW => ⟨rfl, xPre.of hEE hP hK hE hS hU hW⟩⟩ rfl rfl hl.1 rfl (lv_room (Nat.le_of_ble_eq_true rfl)) dX11_place_73 ⟨Nat.le_of_ble_eq_true rfl, Nat.le_of_ble_eq_true rfl⟩) hS (fun q _ h => XA.le hS.1 q h) (XA.le hS.1) (fun r9 x t H locs ht hvm hw hB _ _ hS => ?_)
      have hP := xB.at ht hB
      clear hB ht hvm
      obtain ⟨rfl, hw⟩ := hw
      have hP : va_P (dC, dI) vwCl (xw A C nb st sl so) _ := hP
      clear hw
      exact W.iret (v := r9) hx hb hr (fun t ht hW => ⟨⟨r9, (st, sl, so), rfl, ⟨hG, hL, rfl, trivial⟩, xB.of ht hP⟩, hS.F ht⟩) hS.2.2 dX11_place_76
    refine lv_tableOut (tgt := 77) hx hb dX11_place_14 (by clear hP hK hS hG hx hb hr hts hown; simp only [Int32.lt_iff_toInt_lt, ← Int32.toInt_inj, Int32.reduceToInt] at cw4 cw6 cw8 ⊢; omega) (by decide) ?_
    refine lv_iconst (v := (-1)) hx hb dX11_place_77 (by decide) ?_
    exact W.iret (v := (-1)) hx hb hr (fun t ht hW => ⟨⟨(-1), (st, sl, so), rfl, ⟨hG, hL, rfl, trivial⟩, xB.of ht hP⟩, hS.F ht⟩) hS.2.2 dX11_place_78
  · refine lv_if_ne (tgt := 13) hx hb dX11_place_8 (by decide) (fun cc => absurd (by decide) cc) (fun _ => ?_)
    refine lv_iconst (v := (-1)) hx hb dX11_place_11 (by decide) ?_
    exact W.iret (v := (-1)) hx hb hr (fun t ht hW => ⟨⟨(-1), (st, sl, so), rfl, ⟨hG, hL, rfl, trivial⟩, xB.of ht hP⟩, hS.F ht⟩) hS.2.2 dX11_place_12
set_option maxHeartbeats 4000000 in
set_option maxRecDepth 100000 in
theorem x_X11_now (l : Launch) (dC : Nat → ClassId) (dI : Nat → Nat → Nat) (ad : Nat → Nat) (E : EP) (hEE : EC ad E) (A : Nat → Nat) (C : Nat → ClassId) (nb sz : Nat) (hN : XN A) (st : Nat → Nat → Int32) (sl : Nat → Nat → Int64) (so : Nat → XR) (va : Int32) (hI : XI st) : Met l yX11_now wsX11_now ({ frames := 5, cells := 0, slots := 0, locals := 110 }) (va_Pc [.ref (A 0), .int va] (xPre E dC dI A C nb sz st sl so)) (va_Qi (fun (r : Int32) (x : XT) => XG [1, 2, 4, 5, 13, 15, 7, 12, 14] st x.1 ∧ LGq sl x.2.1 ∧ x.2.2 = so ∧ (True)) (xB dC dI A C nb) (XA A sz)) 0 0 (XA A sz) := by
  refine Met.ofW (cc := cX11_now) (maxL := 2) (ret := (some .int)) (by decide) rfl ?_
  intro p e s m args below meth c s₁ B hml hv
  obtain ⟨rfl, hsz, hP, hK, hE⟩ := hv
  have hx := B.exec
  have hb := B.bytes
  have hr := B.returns
  have hts := atoms_spec (ws := wsX11_now) B.pre
  have hown : s.vm.findClass RX11 = some m.cls := findClass_of_methodNamed B.named
  subst hsz
  have hEv := hEE.1 _ _ _ hE
  have hS : va_S (XA A s.heap.size) s.heap s.heap [] := va_S.rf
  have hG : XG [1, 2, 4, 5, 13, 15, 7, 12, 14] st st := XG.rf hI
  have hl := lv_entry ([.ref (A 0), .int va]) (n := 2) (Nat.le_of_ble_eq_true rfl)
  rw [lg_entry_eq]
  generalize (lg_sl ([.ref (A 0), .int va]) ++ List.replicate (2 - (lg_sl ([.ref (A 0), .int va])).length) Slot.unset).toArray = ls at hl ⊢
  have hl : lv_has ls 2 [(0, .ref (A 0)), (1, .int va)] := hl
  have hL : LGq sl sl := LGq.rf
  refine lv_iload_n hx hb dX11_now_0 rfl (lv_at hl 1 rfl) ?_
  by_cases cw1 : va = 0
  · subst cw1
    refine lv_tableIn (tgt := 48) hx hb dX11_now_1 (by decide) (by decide) rfl (by decide) ?_
    refine lv_aload_n hx hb dX11_now_48 rfl (lv_at hl 0 rfl) ?_
    refine va_get (D := (dC, dI)) (ci := 10) (v := .ref (A (36 + 20 * 0))) (C := RX11) (T := TX11) (N := 19) hx hb hts ii_X11_now_X11 hown hK hP 0 (xw_is (r := 0) (by omega) (xc_fix (r := 0) (by omega))) rfl 1 (by decide) (hts _ mm_X11_now_1) (fun _ hh => hh) rfl dX11_now_49 ?_
    refine va_getN (host := "OffTheLead") (D := (dC, dI)) (ci := 5) (v := .int (st (36 + 20 * 0) 9)) (C := RX4) (T := TX4) (N := 12) hx hb hts ii_X11_now_X4 hown hK hP (36 + 20 * 0) (xw_is (r := (36 + 20 * 0)) (by omega) (xc_pk (i := 0) (o := 0) (by omega) (by omega))) rfl 9 (by decide) (va_Nw.use rfl (nf_X11_212 hEv)) (fun _ hh => hh) rfl dX11_now_52 ?_
    obtain ⟨z2, ez2⟩ : ∃ y : Int32, st (36 + 20 * 0) 9 = y := ⟨_, rfl⟩
    refine zz_top (v := z2) (by exact ez2) ?_
    exact W.iret (v := z2) hx hb hr (fun t ht hW => ⟨⟨z2, (st, sl, so), rfl, ⟨hG, hL, rfl, trivial⟩, xB.of ht hP⟩, hS.F ht⟩) hS.2.2 dX11_now_55
  by_cases cw3 : va = 1
  · subst cw3
    refine lv_tableIn (tgt := 56) hx hb dX11_now_1 (by decide) (by decide) rfl (by decide) ?_
    refine lv_aload_n hx hb dX11_now_56 rfl (lv_at hl 0 rfl) ?_
    refine va_get (D := (dC, dI)) (ci := 10) (v := .ref (A (36 + 20 * 0))) (C := RX11) (T := TX11) (N := 19) hx hb hts ii_X11_now_X11 hown hK hP 0 (xw_is (r := 0) (by omega) (xc_fix (r := 0) (by omega))) rfl 1 (by decide) (hts _ mm_X11_now_1) (fun _ hh => hh) rfl dX11_now_57 ?_
    refine va_calli (va_runV (As := []) (rest := []) ⟨hx, hb, hml, hown, hts⟩ (x_X4_awayBits l dC dI ad E hEE A C nb _ hN st sl so 0 (by omega) hG.1) (cwV 0 hts gX11_now_X4_awayBits rfl rfl rfl (by decide +kernel) ⟨Nat.le_of_ble_eq_true rfl, Nat.le_of_ble_eq_true rfl⟩) ⟨fun a U g mk q => ⟨q.1, xPre.blind hEE q.2⟩, va_recv hK hP (ci := 5) (q0 := (36 + 20 * 0)) rfl (xw_is (r := (36 + 20 * 0)) (by omega) (xc_pk (i := 0) (o := 0) (by omega) (by omega))), fun U hU hW => ⟨rfl, xPre.of hEE hP hK hE hS hU hW⟩⟩ rfl rfl hl.1 rfl (lv_room (Nat.le_of_ble_eq_true rfl)) dX11_now_60 ⟨Nat.le_of_ble_eq_true rfl, Nat.le_of_ble_eq_true rfl⟩) hS (fun q _ h => XA.le hS.1 q h) (XA.le hS.1) (fun r4 x t H locs ht hvm hw hB _ _ hS => ?_)
    have hP := xB.at ht hB
    clear hB ht hvm
    obtain ⟨rfl, hw⟩ := hw
    have hP : va_P (dC, dI) vwCl (xw A C nb st sl so) _ := hP
    clear hw
    exact W.iret (v := r4) hx hb hr (fun t ht hW => ⟨⟨r4, (st, sl, so), rfl, ⟨hG, hL, rfl, trivial⟩, xB.of ht hP⟩, hS.F ht⟩) hS.2.2 dX11_now_63
  by_cases cw5 : va = 2
  · subst cw5
    refine lv_tableIn (tgt := 64) hx hb dX11_now_1 (by decide) (by decide) rfl (by decide) ?_
    refine lv_aload_n hx hb dX11_now_64 rfl (lv_at hl 0 rfl) ?_
    refine va_get (D := (dC, dI)) (ci := 10) (v := .ref (A (36 + 20 * 0))) (C := RX11) (T := TX11) (N := 19) hx hb hts ii_X11_now_X11 hown hK hP 0 (xw_is (r := 0) (by omega) (xc_fix (r := 0) (by omega))) rfl 1 (by decide) (hts _ mm_X11_now_1) (fun _ hh => hh) rfl dX11_now_65 ?_
    refine va_getN (host := "OffTheLead") (D := (dC, dI)) (ci := 5) (v := .int (st (36 + 20 * 0) 8)) (C := RX4) (T := TX4) (N := 12) hx hb hts ii_X11_now_X4 hown hK hP (36 + 20 * 0) (xw_is (r := (36 + 20 * 0)) (by omega) (xc_pk (i := 0) (o := 0) (by omega) (by omega))) rfl 8 (by decide) (va_Nw.use rfl (nf_X11_219 hEv)) (fun _ hh => hh) rfl dX11_now_68 ?_
    obtain ⟨z6, ez6⟩ : ∃ y : Int32, st (36 + 20 * 0) 8 = y := ⟨_, rfl⟩
    refine zz_top (v := z6) (by exact ez6) ?_
    exact W.iret (v := z6) hx hb hr (fun t ht hW => ⟨⟨z6, (st, sl, so), rfl, ⟨hG, hL, rfl, trivial⟩, xB.of ht hP⟩, hS.F ht⟩) hS.2.2 dX11_now_71
  by_cases cw7 : va = 3
  · subst cw7
    refine lv_tableIn (tgt := 72) hx hb dX11_now_1 (by decide) (by decide) rfl (by decide) ?_
    refine lv_aload_n hx hb dX11_now_72 rfl (lv_at hl 0 rfl) ?_
    refine va_get (D := (dC, dI)) (ci := 10) (v := .ref (A (36 + 20 * 0))) (C := RX11) (T := TX11) (N := 19) hx hb hts ii_X11_now_X11 hown hK hP 0 (xw_is (r := 0) (by omega) (xc_fix (r := 0) (by omega))) rfl 1 (by decide) (hts _ mm_X11_now_1) (fun _ hh => hh) rfl dX11_now_73 ?_
    refine va_getN (host := "OffTheLead") (D := (dC, dI)) (ci := 5) (v := .int (st (36 + 20 * 0) 10)) (C := RX4) (T := TX4) (N := 12) hx hb hts ii_X11_now_X4 hown hK hP (36 + 20 * 0) (xw_is (r := (36 + 20 * 0)) (by omega) (xc_pk (i := 0) (o := 0) (by omega) (by omega))) rfl 10 (by decide) (va_Nw.use rfl (nf_X11_222 hEv)) (fun _ hh => hh) rfl dX11_now_76 ?_
    obtain ⟨z8, ez8⟩ : ∃ y : Int32, st (36 + 20 * 0) 10 = y := ⟨_, rfl⟩
    refine zz_top (v := z8) (by exact ez8) ?_
    exact W.iret (v := z8) hx hb hr (fun t ht hW => ⟨⟨z8, (st, sl, so), rfl, ⟨hG, hL, rfl, trivial⟩, xB.of ht hP⟩, hS.F ht⟩) hS.2.2 dX11_now_79
  by_cases cw9 : va = 4
  · subst cw9
    refine lv_tableIn (tgt := 80) hx hb dX11_now_1 (by decide) (by decide) rfl (by decide) ?_
    refine lv_aload_n hx hb dX11_now_80 rfl (lv_at hl 0 rfl) ?_
    refine va_get (D := (dC, dI)) (ci := 10) (v := .ref (A (36 + 20 * 0))) (C := RX11) (T := TX11) (N := 19) hx hb hts ii_X11_now_X11 hown hK hP 0 (xw_is (r := 0) (by omega) (xc_fix (r := 0) (by omega))) rfl 1 (by decide) (hts _ mm_X11_now_1) (fun _ hh => hh) rfl dX11_now_81 ?_
    refine va_getN (host := "OffTheLead") (D := (dC, dI)) (ci := 5) (v := .int (st (36 + 20 * 0) 11)) (C := RX4) (T := TX4) (N := 12) hx hb hts ii_X11_now_X4 hown hK hP (36 + 20 * 0) (xw_is (r := (36 + 20 * 0)) (by omega) (xc_pk (i := 0) (o := 0) (by omega) (by omega))) rfl 11 (by decide) (va_Nw.use rfl (nf_X11_225 hEv)) (fun _ hh => hh) rfl dX11_now_84 ?_
    obtain ⟨z10, ez10⟩ : ∃ y : Int32, st (36 + 20 * 0) 11 = y := ⟨_, rfl⟩
    refine zz_top (v := z10) (by exact ez10) ?_
    exact W.iret (v := z10) hx hb hr (fun t ht hW => ⟨⟨z10, (st, sl, so), rfl, ⟨hG, hL, rfl, trivial⟩, xB.of ht hP⟩, hS.F ht⟩) hS.2.2 dX11_now_87
  by_cases cw11 : va = 5
  · subst cw11
    refine lv_tableIn (tgt := 88) hx hb dX11_now_1 (by decide) (by decide) rfl (by decide) ?_
    refine lv_aload_n hx hb dX11_now_88 rfl (lv_at hl 0 rfl) ?_
    refine va_get (D := (dC, dI)) (ci := 10) (v := .ref (A (36 + 20 * 0))) (C := RX11) (T := TX11) (N := 19) hx hb hts ii_X11_now_X11 hown hK hP 0 (xw_is (r := 0) (by omega) (xc_fix (r := 0) (by omega))) rfl 1 (by decide) (hts _ mm_X11_now_1) (fun _ hh => hh) rfl dX11_now_89 ?_
    refine lv_iconst (v := 1) hx hb dX11_now_92 (by decide) ?_
    refine va_calli (va_runV (As := [.int 1]) (rest := []) ⟨hx, hb, hml, hown, hts⟩ (x_X4_goodOfAll l dC dI ad E hEE A C nb _ hN st sl so 0 1 (by omega) hG.1) (cwV 1 hts gX11_now_X4_goodOfAll rfl rfl rfl (by decide +kernel) ⟨Nat.le_of_ble_eq_true rfl, Nat.le_of_ble_eq_true rfl⟩) ⟨fun a U g mk q => ⟨q.1, xPre.blind hEE q.2⟩, va_recv hK hP (ci := 5) (q0 := (36 + 20 * 0)) rfl (xw_is (r := (36 + 20 * 0)) (by omega) (xc_pk (i := 0) (o := 0) (by omega) (by omega))), fun U hU hW => ⟨rfl, xPre.of hEE hP hK hE hS hU hW⟩⟩ rfl rfl hl.1 rfl (lv_room (Nat.le_of_ble_eq_true rfl)) dX11_now_93 ⟨Nat.le_of_ble_eq_true rfl, Nat.le_of_ble_eq_true rfl⟩) hS (fun q _ h => XA.le hS.1 q h) (XA.le hS.1) (fun r12 x t H locs ht hvm hw hB _ _ hS => ?_)
    have hP := xB.at ht hB
    clear hB ht hvm
    obtain ⟨rfl, hw⟩ := hw
    have hP : va_P (dC, dI) vwCl (xw A C nb st sl so) _ := hP
    clear hw
    exact W.iret (v := r12) hx hb hr (fun t ht hW => ⟨⟨r12, (st, sl, so), rfl, ⟨hG, hL, rfl, trivial⟩, xB.of ht hP⟩, hS.F ht⟩) hS.2.2 dX11_now_96
  by_cases cw13 : va = 6
  · subst cw13
    refine lv_tableIn (tgt := 97) hx hb dX11_now_1 (by decide) (by decide) rfl (by decide) ?_
    refine lv_aload_n hx hb dX11_now_97 rfl (lv_at hl 0 rfl) ?_
    refine va_get (D := (dC, dI)) (ci := 10) (v := .ref (A (36 + 20 * 0))) (C := RX11) (T := TX11) (N := 19) hx hb hts ii_X11_now_X11 hown hK hP 0 (xw_is (r := 0) (by omega) (xc_fix (r := 0) (by omega))) rfl 1 (by decide) (hts _ mm_X11_now_1) (fun _ hh => hh) rfl dX11_now_98 ?_
    refine lv_iconst (v := 0) hx hb dX11_now_101 (by decide) ?_
    refine va_calli (va_runV (As := [.int 0]) (rest := []) ⟨hx, hb, hml, hown, hts⟩ (x_X4_goodOfAll l dC dI ad E hEE A C nb _ hN st sl so 0 0 (by omega) hG.1) (cwV 1 hts gX11_now_X4_goodOfAll rfl rfl rfl (by decide +kernel) ⟨Nat.le_of_ble_eq_true rfl, Nat.le_of_ble_eq_true rfl⟩) ⟨fun a U g mk q => ⟨q.1, xPre.blind hEE q.2⟩, va_recv hK hP (ci := 5) (q0 := (36 + 20 * 0)) rfl (xw_is (r := (36 + 20 * 0)) (by omega) (xc_pk (i := 0) (o := 0) (by omega) (by omega))), fun U hU hW => ⟨rfl, xPre.of hEE hP hK hE hS hU hW⟩⟩ rfl rfl hl.1 rfl (lv_room (Nat.le_of_ble_eq_true rfl)) dX11_now_102 ⟨Nat.le_of_ble_eq_true rfl, Nat.le_of_ble_eq_true rfl⟩) hS (fun q _ h => XA.le hS.1 q h) (XA.le hS.1) (fun r14 x t H locs ht hvm hw hB _ _ hS => ?_)
    have hP := xB.at ht hB
    clear hB ht hvm
    obtain ⟨rfl, hw⟩ := hw
    have hP : va_P (dC, dI) vwCl (xw A C nb st sl so) _ := hP
    clear hw
    exact W.iret (v := r14) hx hb hr (fun t ht hW => ⟨⟨r14, (st, sl, so), rfl, ⟨hG, hL, rfl, trivial⟩, xB.of ht hP⟩, hS.F ht⟩) hS.2.2 dX11_now_105
  by_cases cw15 : va = 7
  · subst cw15
    refine lv_tableIn (tgt := 106) hx hb dX11_now_1 (by decide) (by decide) rfl (by decide) ?_
    refine lv_aload_n hx hb dX11_now_106 rfl (lv_at hl 0 rfl) ?_
    refine va_get (D := (dC, dI)) (ci := 10) (v := .ref (A (36 + 20 * 0))) (C := RX11) (T := TX11) (N := 19) hx hb hts ii_X11_now_X11 hown hK hP 0 (xw_is (r := 0) (by omega) (xc_fix (r := 0) (by omega))) rfl 1 (by decide) (hts _ mm_X11_now_1) (fun _ hh => hh) rfl dX11_now_107 ?_
    refine va_calli (va_runV (As := []) (rest := []) ⟨hx, hb, hml, hown, hts⟩ (x_X4_heldBits l dC dI ad E hEE A C nb _ hN st sl so 0 (by omega) hG.1) (cwV 0 hts gX11_now_X4_heldBits rfl rfl rfl (by decide +kernel) ⟨Nat.le_of_ble_eq_true rfl, Nat.le_of_ble_eq_true rfl⟩) ⟨fun a U g mk q => ⟨q.1, xPre.blind hEE q.2⟩, va_recv hK hP (ci := 5) (q0 := (36 + 20 * 0)) rfl (xw_is (r := (36 + 20 * 0)) (by omega) (xc_pk (i := 0) (o := 0) (by omega) (by omega))), fun U hU hW => ⟨rfl, xPre.of hEE hP hK hE hS hU hW⟩⟩ rfl rfl hl.1 rfl (lv_room (Nat.le_of_ble_eq_true rfl)) dX11_now_110 ⟨Nat.le_of_ble_eq_true rfl, Nat.le_of_ble_eq_true rfl⟩) hS (fun q _ h => XA.le hS.1 q h) (XA.le hS.1) (fun r16 x t H locs ht hvm hw hB _ _ hS => ?_)
    have hP := xB.at ht hB
    clear hB ht hvm
    obtain ⟨rfl, hw⟩ := hw
    have hP : va_P (dC, dI) vwCl (xw A C nb st sl so) _ := hP
    clear hw
    exact W.iret (v := r16) hx hb hr (fun t ht hW => ⟨⟨r16, (st, sl, so), rfl, ⟨hG, hL, rfl, trivial⟩, xB.of ht hP⟩, hS.F ht⟩) hS.2.2 dX11_now_113
  refine lv_tableOut (tgt := 114) hx hb dX11_now_1 (by clear hP hK hS hG hx hb hr hts hown; simp only [Int32.lt_iff_toInt_lt, ← Int32.toInt_inj, Int32.reduceToInt] at cw1 cw3 cw5 cw7 cw9 cw11 cw13 cw15 ⊢; omega) (by decide) ?_
  refine lv_iconst (v := (-1)) hx hb dX11_now_114 (by decide) ?_
  exact W.iret (v := (-1)) hx hb hr (fun t ht hW => ⟨⟨(-1), (st, sl, so), rfl, ⟨hG, hL, rfl, trivial⟩, xB.of ht hP⟩, hS.F ht⟩) hS.2.2 dX11_now_115
set_option maxHeartbeats 4000000 in
set_option maxRecDepth 100000 in
theorem x_X11_allow (l : Launch) (dC : Nat → ClassId) (dI : Nat → Nat → Nat) (ad : Nat → Nat) (E : EP) (hEE : EC ad E) (A : Nat → Nat) (C : Nat → ClassId) (nb sz : Nat) (hN : XN A) (st : Nat → Nat → Int32) (sl : Nat → Nat → Int64) (so : Nat → XR) (va : Int32) (vb : Int32) (vc : Int32) (hI : XI st) : Met l yX11_allow wsX11_allow ({ frames := 3, cells := 0, slots := 0, locals := 64 }) (va_Pc [.ref (A 0), .int va, .int vb, .int vc] (xPre E dC dI A C nb sz st sl so)) (va_Qi (fun (r : Int32) (x : XT) => XG [1, 2, 4, 5, 13, 12, 14] st x.1 ∧ x.2.2 = so ∧ (NI st sl x.1 x.2.1)) (xB dC dI A C nb) (XA A sz)) 0 0 (XA A sz) := by
  refine Met.ofW (cc := cX11_allow) (maxL := 4) (ret := (some .int)) (by decide) rfl ?_
  intro p e s m args below meth c s₁ B hml hv
  obtain ⟨rfl, hsz, hP, hK, hE⟩ := hv
  have hx := B.exec
  have hb := B.bytes
  have hr := B.returns
  have hts := atoms_spec (ws := wsX11_allow) B.pre
  have hown : s.vm.findClass RX11 = some m.cls := findClass_of_methodNamed B.named
  subst hsz
  have hEv := hEE.1 _ _ _ hE
  have hS : va_S (XA A s.heap.size) s.heap s.heap [] := va_S.rf
  have hG : XG [1, 2, 4, 5, 13, 12, 14] st st := XG.rf hI
  have hl := lv_entry ([.ref (A 0), .int va, .int vb, .int vc]) (n := 4) (Nat.le_of_ble_eq_true rfl)
  rw [lg_entry_eq]
  generalize (lg_sl ([.ref (A 0), .int va, .int vb, .int vc]) ++ List.replicate (4 - (lg_sl ([.ref (A 0), .int va, .int vb, .int vc])).length) Slot.unset).toArray = ls at hl ⊢
  have hl : lv_has ls 4 [(0, .ref (A 0)), (1, .int va), (2, .int vb), (3, .int vc)] := hl
  have hni : NI st sl st sl := NI.rf
  refine lv_aload_n hx hb dX11_allow_0 rfl (lv_at hl 0 rfl) ?_
  refine va_get (D := (dC, dI)) (ci := 10) (v := .ref (A (36 + 20 * 0))) (C := RX11) (T := TX11) (N := 19) hx hb hts ii_X11_allow_X11 hown hK hP 0 (xw_is (r := 0) (by omega) (xc_fix (r := 0) (by omega))) rfl 1 (by decide) (hts _ mm_X11_allow_1) (fun _ hh => hh) rfl dX11_allow_1 ?_
  refine lv_iload_n hx hb dX11_allow_4 rfl (lv_at hl 1 rfl) ?_
  refine va_calli (va_runV (As := [.int va]) (rest := []) ⟨hx, hb, hml, hown, hts⟩ (x_X4_hasPlace l dC dI ad E hEE A C nb _ hN st sl so 0 va (by omega) hG.1) (cwV 1 hts gX11_allow_X4_hasPlace rfl rfl rfl (by decide +kernel) ⟨Nat.le_of_ble_eq_true rfl, Nat.le_of_ble_eq_true rfl⟩) ⟨fun a U g mk q => ⟨q.1, xPre.blind hEE q.2⟩, va_recv hK hP (ci := 5) (q0 := (36 + 20 * 0)) rfl (xw_is (r := (36 + 20 * 0)) (by omega) (xc_pk (i := 0) (o := 0) (by omega) (by omega))), fun U hU hW => ⟨rfl, xPre.of hEE hP hK hE hS hU hW⟩⟩ rfl rfl hl.1 rfl (lv_room (Nat.le_of_ble_eq_true rfl)) dX11_allow_5 ⟨Nat.le_of_ble_eq_true rfl, Nat.le_of_ble_eq_true rfl⟩) hS (fun q _ h => XA.le hS.1 q h) (XA.le hS.1) (fun r1 x t H locs ht hvm hw hB _ _ hS => ?_)
  have hP := xB.at ht hB
  clear hB ht hvm
  obtain ⟨rfl, hw⟩ := hw
  have hP : va_P (dC, dI) vwCl (xw A C nb st sl so) _ := hP
  rcases hw with ⟨n2, rfl, hf3, rfl⟩ | rfl
  · refine lv_if_eq (tgt := 19) hx hb dX11_allow_8 (by decide) (fun cc => absurd cc (by decide)) (fun _ => ?_)
    refine lv_iload_n hx hb dX11_allow_11 rfl (lv_at hl 2 rfl) ?_
    refine lv_iload_n hx hb dX11_allow_12 rfl (lv_at hl 3 rfl) ?_
    refine va_calli (va_runS (As := [.int vb, .int vc]) (rest := []) ⟨hx, hb, hml, hown, hts⟩ (x_X11_areHours l dC dI ad E hEE A C nb _ hN st sl so vb vc  hG.1) (va_cwS 2 hts gX11_allow_X11_areHours rfl rfl rfl (by decide +kernel) ⟨Nat.le_of_ble_eq_true rfl, Nat.le_of_ble_eq_true rfl⟩) ⟨fun a U g mk q => ⟨q.1, xPre.blind hEE q.2⟩, fun U hU hW => ⟨rfl, xPre.of hEE hP hK hE hS hU hW⟩⟩ rfl rfl hl.1 rfl (lv_room (Nat.le_of_ble_eq_true rfl)) dX11_allow_13 ⟨Nat.le_of_ble_eq_true rfl, Nat.le_of_ble_eq_true rfl⟩) hS (fun q _ h => XA.le hS.1 q h) (XA.le hS.1) (fun r4 x t H locs ht hvm hw hB _ _ hS => ?_)
    have hP := xB.at ht hB
    clear hB ht hvm
    obtain ⟨rfl, hw⟩ := hw
    have hP : va_P (dC, dI) vwCl (xw A C nb st sl so) _ := hP
    rcases hw with rfl | rfl
    · refine lv_if_ne (tgt := 21) hx hb dX11_allow_16 (by decide) (fun _ => ?_) (fun cc => absurd cc (by decide))
      refine lv_aload_n hx hb dX11_allow_21 rfl (lv_at hl 0 rfl) ?_
      refine va_get (D := (dC, dI)) (ci := 10) (v := .ref (A 11)) (C := RX11) (T := TX11) (N := 19) hx hb hts ii_X11_allow_X11 hown hK hP 0 (xw_is (r := 0) (by omega) (xc_fix (r := 0) (by omega))) rfl 8 (by decide) (hts _ mm_X11_allow_2) (fun _ hh => hh) rfl dX11_allow_22 ?_
      refine lv_aload_n hx hb dX11_allow_25 rfl (lv_at hl 0 rfl) ?_
      refine va_get (D := (dC, dI)) (ci := 10) (v := .ref (A (36 + 20 * 0))) (C := RX11) (T := TX11) (N := 19) hx hb hts ii_X11_allow_X11 hown hK hP 0 (xw_is (r := 0) (by omega) (xc_fix (r := 0) (by omega))) rfl 1 (by decide) (hts _ mm_X11_allow_1) (fun _ hh => hh) rfl dX11_allow_26 ?_
      refine va_callv (va_runV (As := [.ref (A (36 + 20 * 0))]) (rest := []) ⟨hx, hb, hml, hown, hts⟩ (x_X3_mark l dC dI ad E hEE A C nb _ hN st sl so  hG.1) (cwV 1 hts gX11_allow_X3_mark rfl rfl rfl (by decide +kernel) ⟨Nat.le_of_ble_eq_true rfl, Nat.le_of_ble_eq_true rfl⟩) ⟨fun a U g mk q => ⟨q.1, xPre.blind hEE q.2⟩, va_recv hK hP (ci := 4) (q0 := 11) rfl (xw_is (r := 11) (by omega) (xc_fix (r := 11) (by omega))), fun U hU hW => ⟨rfl, xPre.of hEE hP hK hE hS hU hW⟩⟩ rfl rfl hl.1 rfl (lv_room (Nat.le_of_ble_eq_true rfl)) dX11_allow_29 ⟨Nat.le_of_ble_eq_true rfl, Nat.le_of_ble_eq_true rfl⟩) hS (fun q _ h => XA.le hS.1 q h) (XA.le hS.1) (fun x t H locs ht hvm hw hB _ _ hS => ?_)
      have hP := xB.at ht hB
      clear hB ht hvm
      obtain ⟨st6, sl7, so8⟩ := x
      obtain ⟨hGst6, hOst6, hw⟩ := hw
      dsimp only at hGst6 hOst6 hw
      replace hOst6 := hOst6.symm
      subst hOst6
      have hP : va_P (dC, dI) vwCl (xw A C nb st6 sl7 so) _ := hP
      have hG : XG [1, 2, 4, 5, 13, 12, 14] st st6 := hG.tr hGst6 (by decide)
      obtain ⟨hf9, hf10⟩ := hw
      have hni : NI st sl st6 sl7 := hni.tr hf9
      have hmk : MKD st6 sl7 := hf10
      refine lv_aload_n hx hb dX11_allow_32 rfl (lv_at hl 0 rfl) ?_
      refine lv_aload_n hx hb dX11_allow_33 rfl (lv_at hl 0 rfl) ?_
      refine va_get (D := (dC, dI)) (ci := 10) (v := .ref (A (36 + 20 * 0))) (C := RX11) (T := TX11) (N := 19) hx hb hts ii_X11_allow_X11 hown hK hP 0 (xw_is (r := 0) (by omega) (xc_fix (r := 0) (by omega))) rfl 1 (by decide) (hts _ mm_X11_allow_1) (fun _ hh => hh) rfl dX11_allow_34 ?_
      refine lv_iload_n hx hb dX11_allow_37 rfl (lv_at hl 1 rfl) ?_
      refine lv_iload_n hx hb dX11_allow_38 rfl (lv_at hl 2 rfl) ?_
      refine lv_iload_n hx hb dX11_allow_39 rfl (lv_at hl 3 rfl) ?_
      refine va_calli (va_runV (As := [.int (nI n2), .int vb, .int vc]) (rest := [.ref (A 0)]) ⟨hx, hb, hml, hown, hts⟩ (x_X4_allowHours l dC dI ad E hEE A C nb _ hN st6 sl7 so 0 n2 vb vc (by omega) (by omega) hG.1) (cwV 3 hts gX11_allow_X4_allowHours rfl rfl rfl (by decide +kernel) ⟨Nat.le_of_ble_eq_true rfl, Nat.le_of_ble_eq_true rfl⟩) ⟨fun a U g mk q => ⟨q.1, xPre.blind hEE q.2⟩, va_recv hK hP (ci := 5) (q0 := (36 + 20 * 0)) rfl (xw_is (r := (36 + 20 * 0)) (by omega) (xc_pk (i := 0) (o := 0) (by omega) (by omega))), fun U hU hW => ⟨rfl, xPre.of hEE hP hK hE hS hU hW⟩⟩ rfl rfl hl.1 rfl (lv_room (Nat.le_of_ble_eq_true rfl)) dX11_allow_40 ⟨Nat.le_of_ble_eq_true rfl, Nat.le_of_ble_eq_true rfl⟩) hS (fun q _ h => XA.le hS.1 q h) (XA.le hS.1) (fun r11 x t H locs ht hvm hw hB _ _ hS => ?_)
      have hP := xB.at ht hB
      clear hB ht hvm
      obtain ⟨st12, sl13, so14⟩ := x
      obtain ⟨hGst12, hLGst12, hOst12, hw⟩ := hw
      dsimp only at hGst12 hLGst12 hOst12 hw
      replace hOst12 := hOst12.symm
      subst hOst12
      have hP : va_P (dC, dI) vwCl (xw A C nb st12 sl13 so) _ := hP
      have hG : XG [1, 2, 4, 5, 13, 12, 14] st st12 := hG.tr hGst12 (by decide)
      clear hw
      have hni : NI st sl st12 sl13 := hni.mg hGst12 (by decide) (by decide) hLGst12
      have hmk : MKD st12 sl13 := hmk.mg hGst12 (by decide) (by decide) hLGst12
      refine va_calli (va_runV (As := [.int r11]) (rest := []) ⟨hx, hb, hml, hown, hts⟩ (x_X11_keepIfDone l dC dI ad E hEE A C nb _ hN st12 sl13 so r11  hG.1) (cwV 1 hts gX11_allow_X11_keepIfDone rfl rfl rfl (by decide +kernel) ⟨Nat.le_of_ble_eq_true rfl, Nat.le_of_ble_eq_true rfl⟩) ⟨fun a U g mk q => ⟨q.1, xPre.blind hEE q.2⟩, va_recv hK hP (ci := 10) (q0 := 0) rfl (xw_is (r := 0) (by omega) (xc_fix (r := 0) (by omega))), fun U hU hW => ⟨rfl, xPre.of hEE hP hK hE hS hU hW⟩⟩ rfl rfl hl.1 rfl (lv_room (Nat.le_of_ble_eq_true rfl)) dX11_allow_43 ⟨Nat.le_of_ble_eq_true rfl, Nat.le_of_ble_eq_true rfl⟩) hS (fun q _ h => XA.le hS.1 q h) (XA.le hS.1) (fun r15 x t H locs ht hvm hw hB _ _ hS => ?_)
      have hP := xB.at ht hB
      clear hB ht hvm
      obtain ⟨st16, sl17, so18⟩ := x
      obtain ⟨hGst16, hLGst16, hOst16, hw⟩ := hw
      dsimp only at hGst16 hLGst16 hOst16 hw
      replace hOst16 := hOst16.symm
      subst hOst16
      have hP : va_P (dC, dI) vwCl (xw A C nb st16 sl17 so) _ := hP
      have hG : XG [1, 2, 4, 5, 13, 12, 14] st st16 := hG.tr hGst16 (by decide)
      have hf19 := hw
      have hni : NI st sl st16 sl17 := hni.kp hmk hf19 hGst16 (by decide) hLGst16
      exact W.iret (v := r15) hx hb hr (fun t ht hW => ⟨⟨r15, (st16, sl17, so), rfl, ⟨hG, rfl, hni⟩, xB.of ht hP⟩, hS.F ht⟩) hS.2.2 dX11_allow_46
    · refine lv_if_ne (tgt := 21) hx hb dX11_allow_16 (by decide) (fun cc => absurd (by decide) cc) (fun _ => ?_)
      refine lv_iconst (v := (-1)) hx hb dX11_allow_19 (by decide) ?_
      exact W.iret (v := (-1)) hx hb hr (fun t ht hW => ⟨⟨(-1), (st, sl, so), rfl, ⟨hG, rfl, hni⟩, xB.of ht hP⟩, hS.F ht⟩) hS.2.2 dX11_allow_20
  · refine lv_if_eq (tgt := 19) hx hb dX11_allow_8 (by decide) (fun _ => ?_) (fun cc => absurd (by decide) cc)
    refine lv_iconst (v := (-1)) hx hb dX11_allow_19 (by decide) ?_
    exact W.iret (v := (-1)) hx hb hr (fun t ht hW => ⟨⟨(-1), (st, sl, so), rfl, ⟨hG, rfl, hni⟩, xB.of ht hP⟩, hS.F ht⟩) hS.2.2 dX11_allow_20
set_option maxHeartbeats 4000000 in
set_option maxRecDepth 100000 in
theorem x_X11_forbid (l : Launch) (dC : Nat → ClassId) (dI : Nat → Nat → Nat) (ad : Nat → Nat) (E : EP) (hEE : EC ad E) (A : Nat → Nat) (C : Nat → ClassId) (nb sz : Nat) (hN : XN A) (st : Nat → Nat → Int32) (sl : Nat → Nat → Int64) (so : Nat → XR) (va : Int32) (vb : Int32) (vc : Int32) (hI : XI st) : Met l yX11_forbid wsX11_forbid ({ frames := 3, cells := 0, slots := 0, locals := 64 }) (va_Pc [.ref (A 0), .int va, .int vb, .int vc] (xPre E dC dI A C nb sz st sl so)) (va_Qi (fun (r : Int32) (x : XT) => XG [1, 2, 4, 5, 13, 12, 14] st x.1 ∧ x.2.2 = so ∧ (NI st sl x.1 x.2.1)) (xB dC dI A C nb) (XA A sz)) 0 0 (XA A sz) := by
  refine Met.ofW (cc := cX11_forbid) (maxL := 4) (ret := (some .int)) (by decide) rfl ?_
  intro p e s m args below meth c s₁ B hml hv
  obtain ⟨rfl, hsz, hP, hK, hE⟩ := hv
  have hx := B.exec
  have hb := B.bytes
  have hr := B.returns
  have hts := atoms_spec (ws := wsX11_forbid) B.pre
  have hown : s.vm.findClass RX11 = some m.cls := findClass_of_methodNamed B.named
  subst hsz
  have hEv := hEE.1 _ _ _ hE
  have hS : va_S (XA A s.heap.size) s.heap s.heap [] := va_S.rf
  have hG : XG [1, 2, 4, 5, 13, 12, 14] st st := XG.rf hI
  have hl := lv_entry ([.ref (A 0), .int va, .int vb, .int vc]) (n := 4) (Nat.le_of_ble_eq_true rfl)
  rw [lg_entry_eq]
  generalize (lg_sl ([.ref (A 0), .int va, .int vb, .int vc]) ++ List.replicate (4 - (lg_sl ([.ref (A 0), .int va, .int vb, .int vc])).length) Slot.unset).toArray = ls at hl ⊢
  have hl : lv_has ls 4 [(0, .ref (A 0)), (1, .int va), (2, .int vb), (3, .int vc)] := hl
  have hni : NI st sl st sl := NI.rf
  refine lv_aload_n hx hb dX11_forbid_0 rfl (lv_at hl 0 rfl) ?_
  refine va_get (D := (dC, dI)) (ci := 10) (v := .ref (A (36 + 20 * 0))) (C := RX11) (T := TX11) (N := 19) hx hb hts ii_X11_forbid_X11 hown hK hP 0 (xw_is (r := 0) (by omega) (xc_fix (r := 0) (by omega))) rfl 1 (by decide) (hts _ mm_X11_forbid_1) (fun _ hh => hh) rfl dX11_forbid_1 ?_
  refine lv_iload_n hx hb dX11_forbid_4 rfl (lv_at hl 1 rfl) ?_
  refine va_calli (va_runV (As := [.int va]) (rest := []) ⟨hx, hb, hml, hown, hts⟩ (x_X4_hasPlace l dC dI ad E hEE A C nb _ hN st sl so 0 va (by omega) hG.1) (cwV 1 hts gX11_forbid_X4_hasPlace rfl rfl rfl (by decide +kernel) ⟨Nat.le_of_ble_eq_true rfl, Nat.le_of_ble_eq_true rfl⟩) ⟨fun a U g mk q => ⟨q.1, xPre.blind hEE q.2⟩, va_recv hK hP (ci := 5) (q0 := (36 + 20 * 0)) rfl (xw_is (r := (36 + 20 * 0)) (by omega) (xc_pk (i := 0) (o := 0) (by omega) (by omega))), fun U hU hW => ⟨rfl, xPre.of hEE hP hK hE hS hU hW⟩⟩ rfl rfl hl.1 rfl (lv_room (Nat.le_of_ble_eq_true rfl)) dX11_forbid_5 ⟨Nat.le_of_ble_eq_true rfl, Nat.le_of_ble_eq_true rfl⟩) hS (fun q _ h => XA.le hS.1 q h) (XA.le hS.1) (fun r1 x t H locs ht hvm hw hB _ _ hS => ?_)
  have hP := xB.at ht hB
  clear hB ht hvm
  obtain ⟨rfl, hw⟩ := hw
  have hP : va_P (dC, dI) vwCl (xw A C nb st sl so) _ := hP
  rcases hw with ⟨n2, rfl, hf3, rfl⟩ | rfl
  · refine lv_if_eq (tgt := 19) hx hb dX11_forbid_8 (by decide) (fun cc => absurd cc (by decide)) (fun _ => ?_)
    refine lv_iload_n hx hb dX11_forbid_11 rfl (lv_at hl 2 rfl) ?_
    refine lv_iload_n hx hb dX11_forbid_12 rfl (lv_at hl 3 rfl) ?_
    refine va_calli (va_runS (As := [.int vb, .int vc]) (rest := []) ⟨hx, hb, hml, hown, hts⟩ (x_X11_areHours l dC dI ad E hEE A C nb _ hN st sl so vb vc  hG.1) (va_cwS 2 hts gX11_forbid_X11_areHours rfl rfl rfl (by decide +kernel) ⟨Nat.le_of_ble_eq_true rfl, Nat.le_of_ble_eq_true rfl⟩) ⟨fun a U g mk q => ⟨q.1, xPre.blind hEE q.2⟩, fun U hU hW => ⟨rfl, xPre.of hEE hP hK hE hS hU hW⟩⟩ rfl rfl hl.1 rfl (lv_room (Nat.le_of_ble_eq_true rfl)) dX11_forbid_13 ⟨Nat.le_of_ble_eq_true rfl, Nat.le_of_ble_eq_true rfl⟩) hS (fun q _ h => XA.le hS.1 q h) (XA.le hS.1) (fun r4 x t H locs ht hvm hw hB _ _ hS => ?_)
    have hP := xB.at ht hB
    clear hB ht hvm
    obtain ⟨rfl, hw⟩ := hw
    have hP : va_P (dC, dI) vwCl (xw A C nb st sl so) _ := hP
    rcases hw with rfl | rfl
    · refine lv_if_ne (tgt := 21) hx hb dX11_forbid_16 (by decide) (fun _ => ?_) (fun cc => absurd cc (by decide))
      refine lv_aload_n hx hb dX11_forbid_21 rfl (lv_at hl 0 rfl) ?_
      refine va_get (D := (dC, dI)) (ci := 10) (v := .ref (A 11)) (C := RX11) (T := TX11) (N := 19) hx hb hts ii_X11_forbid_X11 hown hK hP 0 (xw_is (r := 0) (by omega) (xc_fix (r := 0) (by omega))) rfl 8 (by decide) (hts _ mm_X11_forbid_2) (fun _ hh => hh) rfl dX11_forbid_22 ?_
      refine lv_aload_n hx hb dX11_forbid_25 rfl (lv_at hl 0 rfl) ?_
      refine va_get (D := (dC, dI)) (ci := 10) (v := .ref (A (36 + 20 * 0))) (C := RX11) (T := TX11) (N := 19) hx hb hts ii_X11_forbid_X11 hown hK hP 0 (xw_is (r := 0) (by omega) (xc_fix (r := 0) (by omega))) rfl 1 (by decide) (hts _ mm_X11_forbid_1) (fun _ hh => hh) rfl dX11_forbid_26 ?_
      refine va_callv (va_runV (As := [.ref (A (36 + 20 * 0))]) (rest := []) ⟨hx, hb, hml, hown, hts⟩ (x_X3_mark l dC dI ad E hEE A C nb _ hN st sl so  hG.1) (cwV 1 hts gX11_forbid_X3_mark rfl rfl rfl (by decide +kernel) ⟨Nat.le_of_ble_eq_true rfl, Nat.le_of_ble_eq_true rfl⟩) ⟨fun a U g mk q => ⟨q.1, xPre.blind hEE q.2⟩, va_recv hK hP (ci := 4) (q0 := 11) rfl (xw_is (r := 11) (by omega) (xc_fix (r := 11) (by omega))), fun U hU hW => ⟨rfl, xPre.of hEE hP hK hE hS hU hW⟩⟩ rfl rfl hl.1 rfl (lv_room (Nat.le_of_ble_eq_true rfl)) dX11_forbid_29 ⟨Nat.le_of_ble_eq_true rfl, Nat.le_of_ble_eq_true rfl⟩) hS (fun q _ h => XA.le hS.1 q h) (XA.le hS.1) (fun x t H locs ht hvm hw hB _ _ hS => ?_)
      have hP := xB.at ht hB
      clear hB ht hvm
      obtain ⟨st6, sl7, so8⟩ := x
      obtain ⟨hGst6, hOst6, hw⟩ := hw
      dsimp only at hGst6 hOst6 hw
      replace hOst6 := hOst6.symm
      subst hOst6
      have hP : va_P (dC, dI) vwCl (xw A C nb st6 sl7 so) _ := hP
      have hG : XG [1, 2, 4, 5, 13, 12, 14] st st6 := hG.tr hGst6 (by decide)
      obtain ⟨hf9, hf10⟩ := hw
      have hni : NI st sl st6 sl7 := hni.tr hf9
      have hmk : MKD st6 sl7 := hf10
      refine lv_aload_n hx hb dX11_forbid_32 rfl (lv_at hl 0 rfl) ?_
      refine lv_aload_n hx hb dX11_forbid_33 rfl (lv_at hl 0 rfl) ?_
      refine va_get (D := (dC, dI)) (ci := 10) (v := .ref (A (36 + 20 * 0))) (C := RX11) (T := TX11) (N := 19) hx hb hts ii_X11_forbid_X11 hown hK hP 0 (xw_is (r := 0) (by omega) (xc_fix (r := 0) (by omega))) rfl 1 (by decide) (hts _ mm_X11_forbid_1) (fun _ hh => hh) rfl dX11_forbid_34 ?_
      refine lv_iload_n hx hb dX11_forbid_37 rfl (lv_at hl 1 rfl) ?_
      refine lv_iload_n hx hb dX11_forbid_38 rfl (lv_at hl 2 rfl) ?_
      refine lv_iload_n hx hb dX11_forbid_39 rfl (lv_at hl 3 rfl) ?_
      refine va_calli (va_runV (As := [.int (nI n2), .int vb, .int vc]) (rest := [.ref (A 0)]) ⟨hx, hb, hml, hown, hts⟩ (x_X4_forbidHours l dC dI ad E hEE A C nb _ hN st6 sl7 so 0 n2 vb vc (by omega) (by omega) hG.1) (cwV 3 hts gX11_forbid_X4_forbidHours rfl rfl rfl (by decide +kernel) ⟨Nat.le_of_ble_eq_true rfl, Nat.le_of_ble_eq_true rfl⟩) ⟨fun a U g mk q => ⟨q.1, xPre.blind hEE q.2⟩, va_recv hK hP (ci := 5) (q0 := (36 + 20 * 0)) rfl (xw_is (r := (36 + 20 * 0)) (by omega) (xc_pk (i := 0) (o := 0) (by omega) (by omega))), fun U hU hW => ⟨rfl, xPre.of hEE hP hK hE hS hU hW⟩⟩ rfl rfl hl.1 rfl (lv_room (Nat.le_of_ble_eq_true rfl)) dX11_forbid_40 ⟨Nat.le_of_ble_eq_true rfl, Nat.le_of_ble_eq_true rfl⟩) hS (fun q _ h => XA.le hS.1 q h) (XA.le hS.1) (fun r11 x t H locs ht hvm hw hB _ _ hS => ?_)
      have hP := xB.at ht hB
      clear hB ht hvm
      obtain ⟨st12, sl13, so14⟩ := x
      obtain ⟨hGst12, hLGst12, hOst12, hw⟩ := hw
      dsimp only at hGst12 hLGst12 hOst12 hw
      replace hOst12 := hOst12.symm
      subst hOst12
      have hP : va_P (dC, dI) vwCl (xw A C nb st12 sl13 so) _ := hP
      have hG : XG [1, 2, 4, 5, 13, 12, 14] st st12 := hG.tr hGst12 (by decide)
      clear hw
      have hni : NI st sl st12 sl13 := hni.mg hGst12 (by decide) (by decide) hLGst12
      have hmk : MKD st12 sl13 := hmk.mg hGst12 (by decide) (by decide) hLGst12
      refine va_calli (va_runV (As := [.int r11]) (rest := []) ⟨hx, hb, hml, hown, hts⟩ (x_X11_keepIfDone l dC dI ad E hEE A C nb _ hN st12 sl13 so r11  hG.1) (cwV 1 hts gX11_forbid_X11_keepIfDone rfl rfl rfl (by decide +kernel) ⟨Nat.le_of_ble_eq_true rfl, Nat.le_of_ble_eq_true rfl⟩) ⟨fun a U g mk q => ⟨q.1, xPre.blind hEE q.2⟩, va_recv hK hP (ci := 10) (q0 := 0) rfl (xw_is (r := 0) (by omega) (xc_fix (r := 0) (by omega))), fun U hU hW => ⟨rfl, xPre.of hEE hP hK hE hS hU hW⟩⟩ rfl rfl hl.1 rfl (lv_room (Nat.le_of_ble_eq_true rfl)) dX11_forbid_43 ⟨Nat.le_of_ble_eq_true rfl, Nat.le_of_ble_eq_true rfl⟩) hS (fun q _ h => XA.le hS.1 q h) (XA.le hS.1) (fun r15 x t H locs ht hvm hw hB _ _ hS => ?_)
      have hP := xB.at ht hB
      clear hB ht hvm
      obtain ⟨st16, sl17, so18⟩ := x
      obtain ⟨hGst16, hLGst16, hOst16, hw⟩ := hw
      dsimp only at hGst16 hLGst16 hOst16 hw
      replace hOst16 := hOst16.symm
      subst hOst16
      have hP : va_P (dC, dI) vwCl (xw A C nb st16 sl17 so) _ := hP
      have hG : XG [1, 2, 4, 5, 13, 12, 14] st st16 := hG.tr hGst16 (by decide)
      have hf19 := hw
      have hni : NI st sl st16 sl17 := hni.kp hmk hf19 hGst16 (by decide) hLGst16
      exact W.iret (v := r15) hx hb hr (fun t ht hW => ⟨⟨r15, (st16, sl17, so), rfl, ⟨hG, rfl, hni⟩, xB.of ht hP⟩, hS.F ht⟩) hS.2.2 dX11_forbid_46
    · refine lv_if_ne (tgt := 21) hx hb dX11_forbid_16 (by decide) (fun cc => absurd (by decide) cc) (fun _ => ?_)
      refine lv_iconst (v := (-1)) hx hb dX11_forbid_19 (by decide) ?_
      exact W.iret (v := (-1)) hx hb hr (fun t ht hW => ⟨⟨(-1), (st, sl, so), rfl, ⟨hG, rfl, hni⟩, xB.of ht hP⟩, hS.F ht⟩) hS.2.2 dX11_forbid_20
  · refine lv_if_eq (tgt := 19) hx hb dX11_forbid_8 (by decide) (fun _ => ?_) (fun cc => absurd (by decide) cc)
    refine lv_iconst (v := (-1)) hx hb dX11_forbid_19 (by decide) ?_
    exact W.iret (v := (-1)) hx hb hr (fun t ht hW => ⟨⟨(-1), (st, sl, so), rfl, ⟨hG, rfl, hni⟩, xB.of ht hP⟩, hS.F ht⟩) hS.2.2 dX11_forbid_20
set_option maxHeartbeats 4000000 in
set_option maxRecDepth 100000 in
theorem x_X11_fence (l : Launch) (dC : Nat → ClassId) (dI : Nat → Nat → Nat) (ad : Nat → Nat) (E : EP) (hEE : EC ad E) (A : Nat → Nat) (C : Nat → ClassId) (nb sz : Nat) (hN : XN A) (st : Nat → Nat → Int32) (sl : Nat → Nat → Int64) (so : Nat → XR) (va : Int32) (hI : XI st) : Met l yX11_fence wsX11_fence ({ frames := 3, cells := 0, slots := 0, locals := 64 }) (va_Pc [.ref (A 0), .int va] (xPre E dC dI A C nb sz st sl so)) (va_Qi (fun (r : Int32) (x : XT) => XG [1, 2, 4, 5, 13, 12, 14] st x.1 ∧ x.2.2 = so ∧ (NI st sl x.1 x.2.1)) (xB dC dI A C nb) (XA A sz)) 0 0 (XA A sz) := by
  refine Met.ofW (cc := cX11_fence) (maxL := 2) (ret := (some .int)) (by decide) rfl ?_
  intro p e s m args below meth c s₁ B hml hv
  obtain ⟨rfl, hsz, hP, hK, hE⟩ := hv
  have hx := B.exec
  have hb := B.bytes
  have hr := B.returns
  have hts := atoms_spec (ws := wsX11_fence) B.pre
  have hown : s.vm.findClass RX11 = some m.cls := findClass_of_methodNamed B.named
  subst hsz
  have hEv := hEE.1 _ _ _ hE
  have hS : va_S (XA A s.heap.size) s.heap s.heap [] := va_S.rf
  have hG : XG [1, 2, 4, 5, 13, 12, 14] st st := XG.rf hI
  have hl := lv_entry ([.ref (A 0), .int va]) (n := 2) (Nat.le_of_ble_eq_true rfl)
  rw [lg_entry_eq]
  generalize (lg_sl ([.ref (A 0), .int va]) ++ List.replicate (2 - (lg_sl ([.ref (A 0), .int va])).length) Slot.unset).toArray = ls at hl ⊢
  have hl : lv_has ls 2 [(0, .ref (A 0)), (1, .int va)] := hl
  have hni : NI st sl st sl := NI.rf
  refine lv_aload_n hx hb dX11_fence_0 rfl (lv_at hl 0 rfl) ?_
  refine va_get (D := (dC, dI)) (ci := 10) (v := .ref (A (36 + 20 * 0))) (C := RX11) (T := TX11) (N := 19) hx hb hts ii_X11_fence_X11 hown hK hP 0 (xw_is (r := 0) (by omega) (xc_fix (r := 0) (by omega))) rfl 1 (by decide) (hts _ mm_X11_fence_1) (fun _ hh => hh) rfl dX11_fence_1 ?_
  refine lv_iload_n hx hb dX11_fence_4 rfl (lv_at hl 1 rfl) ?_
  refine va_calli (va_runV (As := [.int va]) (rest := []) ⟨hx, hb, hml, hown, hts⟩ (x_X4_hasPlace l dC dI ad E hEE A C nb _ hN st sl so 0 va (by omega) hG.1) (cwV 1 hts gX11_fence_X4_hasPlace rfl rfl rfl (by decide +kernel) ⟨Nat.le_of_ble_eq_true rfl, Nat.le_of_ble_eq_true rfl⟩) ⟨fun a U g mk q => ⟨q.1, xPre.blind hEE q.2⟩, va_recv hK hP (ci := 5) (q0 := (36 + 20 * 0)) rfl (xw_is (r := (36 + 20 * 0)) (by omega) (xc_pk (i := 0) (o := 0) (by omega) (by omega))), fun U hU hW => ⟨rfl, xPre.of hEE hP hK hE hS hU hW⟩⟩ rfl rfl hl.1 rfl (lv_room (Nat.le_of_ble_eq_true rfl)) dX11_fence_5 ⟨Nat.le_of_ble_eq_true rfl, Nat.le_of_ble_eq_true rfl⟩) hS (fun q _ h => XA.le hS.1 q h) (XA.le hS.1) (fun r1 x t H locs ht hvm hw hB _ _ hS => ?_)
  have hP := xB.at ht hB
  clear hB ht hvm
  obtain ⟨rfl, hw⟩ := hw
  have hP : va_P (dC, dI) vwCl (xw A C nb st sl so) _ := hP
  rcases hw with ⟨n2, rfl, hf3, rfl⟩ | rfl
  · refine lv_if_ne (tgt := 13) hx hb dX11_fence_8 (by decide) (fun _ => ?_) (fun cc => absurd cc (by decide))
    refine lv_aload_n hx hb dX11_fence_13 rfl (lv_at hl 0 rfl) ?_
    refine va_get (D := (dC, dI)) (ci := 10) (v := .ref (A 11)) (C := RX11) (T := TX11) (N := 19) hx hb hts ii_X11_fence_X11 hown hK hP 0 (xw_is (r := 0) (by omega) (xc_fix (r := 0) (by omega))) rfl 8 (by decide) (hts _ mm_X11_fence_2) (fun _ hh => hh) rfl dX11_fence_14 ?_
    refine lv_aload_n hx hb dX11_fence_17 rfl (lv_at hl 0 rfl) ?_
    refine va_get (D := (dC, dI)) (ci := 10) (v := .ref (A (36 + 20 * 0))) (C := RX11) (T := TX11) (N := 19) hx hb hts ii_X11_fence_X11 hown hK hP 0 (xw_is (r := 0) (by omega) (xc_fix (r := 0) (by omega))) rfl 1 (by decide) (hts _ mm_X11_fence_1) (fun _ hh => hh) rfl dX11_fence_18 ?_
    refine va_callv (va_runV (As := [.ref (A (36 + 20 * 0))]) (rest := []) ⟨hx, hb, hml, hown, hts⟩ (x_X3_mark l dC dI ad E hEE A C nb _ hN st sl so  hG.1) (cwV 1 hts gX11_fence_X3_mark rfl rfl rfl (by decide +kernel) ⟨Nat.le_of_ble_eq_true rfl, Nat.le_of_ble_eq_true rfl⟩) ⟨fun a U g mk q => ⟨q.1, xPre.blind hEE q.2⟩, va_recv hK hP (ci := 4) (q0 := 11) rfl (xw_is (r := 11) (by omega) (xc_fix (r := 11) (by omega))), fun U hU hW => ⟨rfl, xPre.of hEE hP hK hE hS hU hW⟩⟩ rfl rfl hl.1 rfl (lv_room (Nat.le_of_ble_eq_true rfl)) dX11_fence_21 ⟨Nat.le_of_ble_eq_true rfl, Nat.le_of_ble_eq_true rfl⟩) hS (fun q _ h => XA.le hS.1 q h) (XA.le hS.1) (fun x t H locs ht hvm hw hB _ _ hS => ?_)
    have hP := xB.at ht hB
    clear hB ht hvm
    obtain ⟨st5, sl6, so7⟩ := x
    obtain ⟨hGst5, hOst5, hw⟩ := hw
    dsimp only at hGst5 hOst5 hw
    replace hOst5 := hOst5.symm
    subst hOst5
    have hP : va_P (dC, dI) vwCl (xw A C nb st5 sl6 so) _ := hP
    have hG : XG [1, 2, 4, 5, 13, 12, 14] st st5 := hG.tr hGst5 (by decide)
    obtain ⟨hf8, hf9⟩ := hw
    have hni : NI st sl st5 sl6 := hni.tr hf8
    have hmk : MKD st5 sl6 := hf9
    refine lv_aload_n hx hb dX11_fence_24 rfl (lv_at hl 0 rfl) ?_
    refine lv_aload_n hx hb dX11_fence_25 rfl (lv_at hl 0 rfl) ?_
    refine va_get (D := (dC, dI)) (ci := 10) (v := .ref (A (36 + 20 * 0))) (C := RX11) (T := TX11) (N := 19) hx hb hts ii_X11_fence_X11 hown hK hP 0 (xw_is (r := 0) (by omega) (xc_fix (r := 0) (by omega))) rfl 1 (by decide) (hts _ mm_X11_fence_1) (fun _ hh => hh) rfl dX11_fence_26 ?_
    refine lv_iload_n hx hb dX11_fence_29 rfl (lv_at hl 1 rfl) ?_
    refine va_calli (va_runV (As := [.int (nI n2)]) (rest := [.ref (A 0)]) ⟨hx, hb, hml, hown, hts⟩ (x_X4_turnFence l dC dI ad E hEE A C nb _ hN st5 sl6 so 0 n2 (by omega) (by omega) hG.1) (cwV 1 hts gX11_fence_X4_turnFence rfl rfl rfl (by decide +kernel) ⟨Nat.le_of_ble_eq_true rfl, Nat.le_of_ble_eq_true rfl⟩) ⟨fun a U g mk q => ⟨q.1, xPre.blind hEE q.2⟩, va_recv hK hP (ci := 5) (q0 := (36 + 20 * 0)) rfl (xw_is (r := (36 + 20 * 0)) (by omega) (xc_pk (i := 0) (o := 0) (by omega) (by omega))), fun U hU hW => ⟨rfl, xPre.of hEE hP hK hE hS hU hW⟩⟩ rfl rfl hl.1 rfl (lv_room (Nat.le_of_ble_eq_true rfl)) dX11_fence_30 ⟨Nat.le_of_ble_eq_true rfl, Nat.le_of_ble_eq_true rfl⟩) hS (fun q _ h => XA.le hS.1 q h) (XA.le hS.1) (fun r10 x t H locs ht hvm hw hB _ _ hS => ?_)
    have hP := xB.at ht hB
    clear hB ht hvm
    obtain ⟨st11, sl12, so13⟩ := x
    obtain ⟨hGst11, hLGst11, hOst11, hw⟩ := hw
    dsimp only at hGst11 hLGst11 hOst11 hw
    replace hOst11 := hOst11.symm
    subst hOst11
    have hP : va_P (dC, dI) vwCl (xw A C nb st11 sl12 so) _ := hP
    have hG : XG [1, 2, 4, 5, 13, 12, 14] st st11 := hG.tr hGst11 (by decide)
    clear hw
    have hni : NI st sl st11 sl12 := hni.mg hGst11 (by decide) (by decide) hLGst11
    have hmk : MKD st11 sl12 := hmk.mg hGst11 (by decide) (by decide) hLGst11
    refine va_calli (va_runV (As := [.int r10]) (rest := []) ⟨hx, hb, hml, hown, hts⟩ (x_X11_keepIfDone l dC dI ad E hEE A C nb _ hN st11 sl12 so r10  hG.1) (cwV 1 hts gX11_fence_X11_keepIfDone rfl rfl rfl (by decide +kernel) ⟨Nat.le_of_ble_eq_true rfl, Nat.le_of_ble_eq_true rfl⟩) ⟨fun a U g mk q => ⟨q.1, xPre.blind hEE q.2⟩, va_recv hK hP (ci := 10) (q0 := 0) rfl (xw_is (r := 0) (by omega) (xc_fix (r := 0) (by omega))), fun U hU hW => ⟨rfl, xPre.of hEE hP hK hE hS hU hW⟩⟩ rfl rfl hl.1 rfl (lv_room (Nat.le_of_ble_eq_true rfl)) dX11_fence_33 ⟨Nat.le_of_ble_eq_true rfl, Nat.le_of_ble_eq_true rfl⟩) hS (fun q _ h => XA.le hS.1 q h) (XA.le hS.1) (fun r14 x t H locs ht hvm hw hB _ _ hS => ?_)
    have hP := xB.at ht hB
    clear hB ht hvm
    obtain ⟨st15, sl16, so17⟩ := x
    obtain ⟨hGst15, hLGst15, hOst15, hw⟩ := hw
    dsimp only at hGst15 hLGst15 hOst15 hw
    replace hOst15 := hOst15.symm
    subst hOst15
    have hP : va_P (dC, dI) vwCl (xw A C nb st15 sl16 so) _ := hP
    have hG : XG [1, 2, 4, 5, 13, 12, 14] st st15 := hG.tr hGst15 (by decide)
    have hf18 := hw
    have hni : NI st sl st15 sl16 := hni.kp hmk hf18 hGst15 (by decide) hLGst15
    refine lv_pop hx hb dX11_fence_36 rfl ?_
    refine lv_aload_n hx hb dX11_fence_37 rfl (lv_at hl 0 rfl) ?_
    refine va_get (D := (dC, dI)) (ci := 10) (v := .ref (A (36 + 20 * 0))) (C := RX11) (T := TX11) (N := 19) hx hb hts ii_X11_fence_X11 hown hK hP 0 (xw_is (r := 0) (by omega) (xc_fix (r := 0) (by omega))) rfl 1 (by decide) (hts _ mm_X11_fence_1) (fun _ hh => hh) rfl dX11_fence_38 ?_
    refine va_getN (host := "OffTheLead") (D := (dC, dI)) (ci := 5) (v := .ref (A (36 + 20 * 0 + 3))) (C := RX4) (T := TX4) (N := 12) hx hb hts ii_X11_fence_X4 hown hK hP (36 + 20 * 0) (xw_is (r := (36 + 20 * 0)) (by omega) (xc_pk (i := 0) (o := 0) (by omega) (by omega))) rfl 2 (by decide) (va_Nw.use rfl (nf_X11_205 hEv)) (fun _ hh => hh) rfl dX11_fence_41 ?_
    refine lv_iload_n hx hb dX11_fence_44 rfl (lv_at hl 1 rfl) ?_
    refine va_zald hx hb hK hP (36 + 20 * 0 + 3) (36 + 20 * 0 + 3) (xw_is (r := (36 + 20 * 0 + 3)) (by omega) (xc_pk (i := 0) (o := 3) (by omega) (by omega))) (xt_is (r := (36 + 20 * 0 + 3)) (by omega) ((xty_pk (i := 0) (o := 3) (by omega)).trans rfl)) (i := (nI n2)) (vp_in_nI (by omega) (by decide)) dX11_fence_45 ?_
    obtain ⟨z19, ez19⟩ : ∃ y : Int32, st15 (36 + 20 * 0 + 3) n2 = y := ⟨_, rfl⟩
    refine zz_top (v := z19) (by rw [nI_clamp (by omega)]; exact ez19) ?_
    refine lv_if_eq (tgt := 53) hx hb dX11_fence_46 (by decide) (fun c2 => ?_) (fun c2 => ?_)
    · refine lv_iconst (v := 0) hx hb dX11_fence_53 (by decide) ?_
      exact W.iret (v := 0) hx hb hr (fun t ht hW => ⟨⟨0, (st15, sl16, so), rfl, ⟨hG, rfl, hni⟩, xB.of ht hP⟩, hS.F ht⟩) hS.2.2 dX11_fence_54
    · refine lv_iconst (v := 1) hx hb dX11_fence_49 (by decide) ?_
      refine lv_goto (tgt := 54) hx hb dX11_fence_50 (by decide) ?_
      exact W.iret (v := 1) hx hb hr (fun t ht hW => ⟨⟨1, (st15, sl16, so), rfl, ⟨hG, rfl, hni⟩, xB.of ht hP⟩, hS.F ht⟩) hS.2.2 dX11_fence_54
  · refine lv_if_ne (tgt := 13) hx hb dX11_fence_8 (by decide) (fun cc => absurd (by decide) cc) (fun _ => ?_)
    refine lv_iconst (v := (-1)) hx hb dX11_fence_11 (by decide) ?_
    exact W.iret (v := (-1)) hx hb hr (fun t ht hW => ⟨⟨(-1), (st, sl, so), rfl, ⟨hG, rfl, hni⟩, xB.of ht hP⟩, hS.F ht⟩) hS.2.2 dX11_fence_12
set_option maxHeartbeats 4000000 in
set_option maxRecDepth 100000 in
theorem x_X11_sign (l : Launch) (dC : Nat → ClassId) (dI : Nat → Nat → Nat) (ad : Nat → Nat) (E : EP) (hEE : EC ad E) (A : Nat → Nat) (C : Nat → ClassId) (nb sz : Nat) (hN : XN A) (st : Nat → Nat → Int32) (sl : Nat → Nat → Int64) (so : Nat → XR) (va : Int32) (hI : XI st) : Met l yX11_sign wsX11_sign ({ frames := 3, cells := 0, slots := 0, locals := 64 }) (va_Pc [.ref (A 0), .int va] (xPre E dC dI A C nb sz st sl so)) (va_Qi (fun (r : Int32) (x : XT) => XG [1, 2, 4, 5, 13, 12, 14] st x.1 ∧ x.2.2 = so ∧ (NI st sl x.1 x.2.1)) (xB dC dI A C nb) (XA A sz)) 0 0 (XA A sz) := by
  refine Met.ofW (cc := cX11_sign) (maxL := 2) (ret := (some .int)) (by decide) rfl ?_
  intro p e s m args below meth c s₁ B hml hv
  obtain ⟨rfl, hsz, hP, hK, hE⟩ := hv
  have hx := B.exec
  have hb := B.bytes
  have hr := B.returns
  have hts := atoms_spec (ws := wsX11_sign) B.pre
  have hown : s.vm.findClass RX11 = some m.cls := findClass_of_methodNamed B.named
  subst hsz
  have hEv := hEE.1 _ _ _ hE
  have hS : va_S (XA A s.heap.size) s.heap s.heap [] := va_S.rf
  have hG : XG [1, 2, 4, 5, 13, 12, 14] st st := XG.rf hI
  have hl := lv_entry ([.ref (A 0), .int va]) (n := 2) (Nat.le_of_ble_eq_true rfl)
  rw [lg_entry_eq]
  generalize (lg_sl ([.ref (A 0), .int va]) ++ List.replicate (2 - (lg_sl ([.ref (A 0), .int va])).length) Slot.unset).toArray = ls at hl ⊢
  have hl : lv_has ls 2 [(0, .ref (A 0)), (1, .int va)] := hl
  have hni : NI st sl st sl := NI.rf
  refine lv_iload_n hx hb dX11_sign_0 rfl (lv_at hl 1 rfl) ?_
  refine lv_if_lt (tgt := 10) hx hb dX11_sign_1 (by decide) (fun c1 => ?_) (fun c1 => ?_)
  · refine lv_iconst (v := (-1)) hx hb dX11_sign_10 (by decide) ?_
    exact W.iret (v := (-1)) hx hb hr (fun t ht hW => ⟨⟨(-1), (st, sl, so), rfl, ⟨hG, rfl, hni⟩, xB.of ht hP⟩, hS.F ht⟩) hS.2.2 dX11_sign_11
  · refine lv_iload_n hx hb dX11_sign_4 rfl (lv_at hl 1 rfl) ?_
    refine lv_bipush (v := 12) hx hb dX11_sign_5 (by decide) ?_
    refine lv_icmp_le (tgt := 12) hx hb dX11_sign_7 (by decide) (fun c2 => ?_) (fun c2 => ?_)
    · refine lv_aload_n hx hb dX11_sign_12 rfl (lv_at hl 0 rfl) ?_
      refine va_get (D := (dC, dI)) (ci := 10) (v := .ref (A 11)) (C := RX11) (T := TX11) (N := 19) hx hb hts ii_X11_sign_X11 hown hK hP 0 (xw_is (r := 0) (by omega) (xc_fix (r := 0) (by omega))) rfl 8 (by decide) (hts _ mm_X11_sign_1) (fun _ hh => hh) rfl dX11_sign_13 ?_
      refine lv_aload_n hx hb dX11_sign_16 rfl (lv_at hl 0 rfl) ?_
      refine va_get (D := (dC, dI)) (ci := 10) (v := .ref (A (36 + 20 * 0))) (C := RX11) (T := TX11) (N := 19) hx hb hts ii_X11_sign_X11 hown hK hP 0 (xw_is (r := 0) (by omega) (xc_fix (r := 0) (by omega))) rfl 1 (by decide) (hts _ mm_X11_sign_2) (fun _ hh => hh) rfl dX11_sign_17 ?_
      refine va_callv (va_runV (As := [.ref (A (36 + 20 * 0))]) (rest := []) ⟨hx, hb, hml, hown, hts⟩ (x_X3_mark l dC dI ad E hEE A C nb _ hN st sl so  hG.1) (cwV 1 hts gX11_sign_X3_mark rfl rfl rfl (by decide +kernel) ⟨Nat.le_of_ble_eq_true rfl, Nat.le_of_ble_eq_true rfl⟩) ⟨fun a U g mk q => ⟨q.1, xPre.blind hEE q.2⟩, va_recv hK hP (ci := 4) (q0 := 11) rfl (xw_is (r := 11) (by omega) (xc_fix (r := 11) (by omega))), fun U hU hW => ⟨rfl, xPre.of hEE hP hK hE hS hU hW⟩⟩ rfl rfl hl.1 rfl (lv_room (Nat.le_of_ble_eq_true rfl)) dX11_sign_20 ⟨Nat.le_of_ble_eq_true rfl, Nat.le_of_ble_eq_true rfl⟩) hS (fun q _ h => XA.le hS.1 q h) (XA.le hS.1) (fun x t H locs ht hvm hw hB _ _ hS => ?_)
      have hP := xB.at ht hB
      clear hB ht hvm
      obtain ⟨st2, sl3, so4⟩ := x
      obtain ⟨hGst2, hOst2, hw⟩ := hw
      dsimp only at hGst2 hOst2 hw
      replace hOst2 := hOst2.symm
      subst hOst2
      have hP : va_P (dC, dI) vwCl (xw A C nb st2 sl3 so) _ := hP
      have hG : XG [1, 2, 4, 5, 13, 12, 14] st st2 := hG.tr hGst2 (by decide)
      obtain ⟨hf5, hf6⟩ := hw
      have hni : NI st sl st2 sl3 := hni.tr hf5
      have hmk : MKD st2 sl3 := hf6
      refine lv_aload_n hx hb dX11_sign_23 rfl (lv_at hl 0 rfl) ?_
      refine lv_aload_n hx hb dX11_sign_24 rfl (lv_at hl 0 rfl) ?_
      refine va_get (D := (dC, dI)) (ci := 10) (v := .ref (A (36 + 20 * 0))) (C := RX11) (T := TX11) (N := 19) hx hb hts ii_X11_sign_X11 hown hK hP 0 (xw_is (r := 0) (by omega) (xc_fix (r := 0) (by omega))) rfl 1 (by decide) (hts _ mm_X11_sign_2) (fun _ hh => hh) rfl dX11_sign_25 ?_
      refine lv_iload_n hx hb dX11_sign_28 rfl (lv_at hl 1 rfl) ?_
      refine va_calli (va_runV (As := [.int va]) (rest := [.ref (A 0)]) ⟨hx, hb, hml, hown, hts⟩ (x_X4_writeSign l dC dI ad E hEE A C nb _ hN st2 sl3 so 0 va (by omega) hG.1) (cwV 1 hts gX11_sign_X4_writeSign rfl rfl rfl (by decide +kernel) ⟨Nat.le_of_ble_eq_true rfl, Nat.le_of_ble_eq_true rfl⟩) ⟨fun a U g mk q => ⟨q.1, xPre.blind hEE q.2⟩, va_recv hK hP (ci := 5) (q0 := (36 + 20 * 0)) rfl (xw_is (r := (36 + 20 * 0)) (by omega) (xc_pk (i := 0) (o := 0) (by omega) (by omega))), fun U hU hW => ⟨rfl, xPre.of hEE hP hK hE hS hU hW⟩⟩ rfl rfl hl.1 rfl (lv_room (Nat.le_of_ble_eq_true rfl)) dX11_sign_29 ⟨Nat.le_of_ble_eq_true rfl, Nat.le_of_ble_eq_true rfl⟩) hS (fun q _ h => XA.le hS.1 q h) (XA.le hS.1) (fun r7 x t H locs ht hvm hw hB _ _ hS => ?_)
      have hP := xB.at ht hB
      clear hB ht hvm
      obtain ⟨st8, sl9, so10⟩ := x
      obtain ⟨hGst8, hLGst8, hOst8, hw⟩ := hw
      dsimp only at hGst8 hLGst8 hOst8 hw
      replace hOst8 := hOst8.symm
      subst hOst8
      have hP : va_P (dC, dI) vwCl (xw A C nb st8 sl9 so) _ := hP
      have hG : XG [1, 2, 4, 5, 13, 12, 14] st st8 := hG.tr hGst8 (by decide)
      clear hw
      have hni : NI st sl st8 sl9 := hni.mg hGst8 (by decide) (by decide) hLGst8
      have hmk : MKD st8 sl9 := hmk.mg hGst8 (by decide) (by decide) hLGst8
      refine va_calli (va_runV (As := [.int r7]) (rest := []) ⟨hx, hb, hml, hown, hts⟩ (x_X11_keepIfDone l dC dI ad E hEE A C nb _ hN st8 sl9 so r7  hG.1) (cwV 1 hts gX11_sign_X11_keepIfDone rfl rfl rfl (by decide +kernel) ⟨Nat.le_of_ble_eq_true rfl, Nat.le_of_ble_eq_true rfl⟩) ⟨fun a U g mk q => ⟨q.1, xPre.blind hEE q.2⟩, va_recv hK hP (ci := 10) (q0 := 0) rfl (xw_is (r := 0) (by omega) (xc_fix (r := 0) (by omega))), fun U hU hW => ⟨rfl, xPre.of hEE hP hK hE hS hU hW⟩⟩ rfl rfl hl.1 rfl (lv_room (Nat.le_of_ble_eq_true rfl)) dX11_sign_32 ⟨Nat.le_of_ble_eq_true rfl, Nat.le_of_ble_eq_true rfl⟩) hS (fun q _ h => XA.le hS.1 q h) (XA.le hS.1) (fun r11 x t H locs ht hvm hw hB _ _ hS => ?_)
      have hP := xB.at ht hB
      clear hB ht hvm
      obtain ⟨st12, sl13, so14⟩ := x
      obtain ⟨hGst12, hLGst12, hOst12, hw⟩ := hw
      dsimp only at hGst12 hLGst12 hOst12 hw
      replace hOst12 := hOst12.symm
      subst hOst12
      have hP : va_P (dC, dI) vwCl (xw A C nb st12 sl13 so) _ := hP
      have hG : XG [1, 2, 4, 5, 13, 12, 14] st st12 := hG.tr hGst12 (by decide)
      have hf15 := hw
      have hni : NI st sl st12 sl13 := hni.kp hmk hf15 hGst12 (by decide) hLGst12
      exact W.iret (v := r11) hx hb hr (fun t ht hW => ⟨⟨r11, (st12, sl13, so), rfl, ⟨hG, rfl, hni⟩, xB.of ht hP⟩, hS.F ht⟩) hS.2.2 dX11_sign_35
    · refine lv_iconst (v := (-1)) hx hb dX11_sign_10 (by decide) ?_
      exact W.iret (v := (-1)) hx hb hr (fun t ht hW => ⟨⟨(-1), (st, sl, so), rfl, ⟨hG, rfl, hni⟩, xB.of ht hP⟩, hS.F ht⟩) hS.2.2 dX11_sign_11
set_option maxHeartbeats 4000000 in
set_option maxRecDepth 100000 in
theorem x_X11_hold (l : Launch) (dC : Nat → ClassId) (dI : Nat → Nat → Nat) (ad : Nat → Nat) (E : EP) (hEE : EC ad E) (A : Nat → Nat) (C : Nat → ClassId) (nb sz : Nat) (hN : XN A) (st : Nat → Nat → Int32) (sl : Nat → Nat → Int64) (so : Nat → XR) (va : Int32) (vb : Int32) (hI : XI st) : Met l yX11_hold wsX11_hold ({ frames := 3, cells := 0, slots := 0, locals := 64 }) (va_Pc [.ref (A 0), .int va, .int vb] (xPre E dC dI A C nb sz st sl so)) (va_Qi (fun (r : Int32) (x : XT) => XG [1, 2, 4, 5, 13, 12, 14] st x.1 ∧ x.2.2 = so ∧ (NI st sl x.1 x.2.1)) (xB dC dI A C nb) (XA A sz)) 0 0 (XA A sz) := by
  refine Met.ofW (cc := cX11_hold) (maxL := 3) (ret := (some .int)) (by decide) rfl ?_
  intro p e s m args below meth c s₁ B hml hv
  obtain ⟨rfl, hsz, hP, hK, hE⟩ := hv
  have hx := B.exec
  have hb := B.bytes
  have hr := B.returns
  have hts := atoms_spec (ws := wsX11_hold) B.pre
  have hown : s.vm.findClass RX11 = some m.cls := findClass_of_methodNamed B.named
  subst hsz
  have hEv := hEE.1 _ _ _ hE
  have hS : va_S (XA A s.heap.size) s.heap s.heap [] := va_S.rf
  have hG : XG [1, 2, 4, 5, 13, 12, 14] st st := XG.rf hI
  have hl := lv_entry ([.ref (A 0), .int va, .int vb]) (n := 3) (Nat.le_of_ble_eq_true rfl)
  rw [lg_entry_eq]
  generalize (lg_sl ([.ref (A 0), .int va, .int vb]) ++ List.replicate (3 - (lg_sl ([.ref (A 0), .int va, .int vb])).length) Slot.unset).toArray = ls at hl ⊢
  have hl : lv_has ls 3 [(0, .ref (A 0)), (1, .int va), (2, .int vb)] := hl
  have hni : NI st sl st sl := NI.rf
  refine lv_aload_n hx hb dX11_hold_0 rfl (lv_at hl 0 rfl) ?_
  refine va_get (D := (dC, dI)) (ci := 10) (v := .ref (A (36 + 20 * 0))) (C := RX11) (T := TX11) (N := 19) hx hb hts ii_X11_hold_X11 hown hK hP 0 (xw_is (r := 0) (by omega) (xc_fix (r := 0) (by omega))) rfl 1 (by decide) (hts _ mm_X11_hold_1) (fun _ hh => hh) rfl dX11_hold_1 ?_
  refine lv_iload_n hx hb dX11_hold_4 rfl (lv_at hl 1 rfl) ?_
  refine va_calli (va_runV (As := [.int va]) (rest := []) ⟨hx, hb, hml, hown, hts⟩ (x_X4_hasDog l dC dI ad E hEE A C nb _ hN st sl so 0 va (by omega) hG.1) (cwV 1 hts gX11_hold_X4_hasDog rfl rfl rfl (by decide +kernel) ⟨Nat.le_of_ble_eq_true rfl, Nat.le_of_ble_eq_true rfl⟩) ⟨fun a U g mk q => ⟨q.1, xPre.blind hEE q.2⟩, va_recv hK hP (ci := 5) (q0 := (36 + 20 * 0)) rfl (xw_is (r := (36 + 20 * 0)) (by omega) (xc_pk (i := 0) (o := 0) (by omega) (by omega))), fun U hU hW => ⟨rfl, xPre.of hEE hP hK hE hS hU hW⟩⟩ rfl rfl hl.1 rfl (lv_room (Nat.le_of_ble_eq_true rfl)) dX11_hold_5 ⟨Nat.le_of_ble_eq_true rfl, Nat.le_of_ble_eq_true rfl⟩) hS (fun q _ h => XA.le hS.1 q h) (XA.le hS.1) (fun r1 x t H locs ht hvm hw hB _ _ hS => ?_)
  have hP := xB.at ht hB
  clear hB ht hvm
  obtain ⟨rfl, hw⟩ := hw
  have hP : va_P (dC, dI) vwCl (xw A C nb st sl so) _ := hP
  rcases hw with ⟨n2, rfl, hf3, rfl⟩ | rfl
  · refine lv_if_eq (tgt := 20) hx hb dX11_hold_8 (by decide) (fun cc => absurd cc (by decide)) (fun _ => ?_)
    refine lv_iload_n hx hb dX11_hold_11 rfl (lv_at hl 2 rfl) ?_
    refine lv_if_lt (tgt := 20) hx hb dX11_hold_12 (by decide) (fun c2 => ?_) (fun c2 => ?_)
    · refine lv_iconst (v := (-1)) hx hb dX11_hold_20 (by decide) ?_
      exact W.iret (v := (-1)) hx hb hr (fun t ht hW => ⟨⟨(-1), (st, sl, so), rfl, ⟨hG, rfl, hni⟩, xB.of ht hP⟩, hS.F ht⟩) hS.2.2 dX11_hold_21
    · refine lv_iload_n hx hb dX11_hold_15 rfl (lv_at hl 2 rfl) ?_
      refine lv_iconst (v := 1) hx hb dX11_hold_16 (by decide) ?_
      refine lv_icmp_le (tgt := 22) hx hb dX11_hold_17 (by decide) (fun c3 => ?_) (fun c3 => ?_)
      · refine lv_aload_n hx hb dX11_hold_22 rfl (lv_at hl 0 rfl) ?_
        refine va_get (D := (dC, dI)) (ci := 10) (v := .ref (A 11)) (C := RX11) (T := TX11) (N := 19) hx hb hts ii_X11_hold_X11 hown hK hP 0 (xw_is (r := 0) (by omega) (xc_fix (r := 0) (by omega))) rfl 8 (by decide) (hts _ mm_X11_hold_2) (fun _ hh => hh) rfl dX11_hold_23 ?_
        refine lv_aload_n hx hb dX11_hold_26 rfl (lv_at hl 0 rfl) ?_
        refine va_get (D := (dC, dI)) (ci := 10) (v := .ref (A (36 + 20 * 0))) (C := RX11) (T := TX11) (N := 19) hx hb hts ii_X11_hold_X11 hown hK hP 0 (xw_is (r := 0) (by omega) (xc_fix (r := 0) (by omega))) rfl 1 (by decide) (hts _ mm_X11_hold_1) (fun _ hh => hh) rfl dX11_hold_27 ?_
        refine va_callv (va_runV (As := [.ref (A (36 + 20 * 0))]) (rest := []) ⟨hx, hb, hml, hown, hts⟩ (x_X3_mark l dC dI ad E hEE A C nb _ hN st sl so  hG.1) (cwV 1 hts gX11_hold_X3_mark rfl rfl rfl (by decide +kernel) ⟨Nat.le_of_ble_eq_true rfl, Nat.le_of_ble_eq_true rfl⟩) ⟨fun a U g mk q => ⟨q.1, xPre.blind hEE q.2⟩, va_recv hK hP (ci := 4) (q0 := 11) rfl (xw_is (r := 11) (by omega) (xc_fix (r := 11) (by omega))), fun U hU hW => ⟨rfl, xPre.of hEE hP hK hE hS hU hW⟩⟩ rfl rfl hl.1 rfl (lv_room (Nat.le_of_ble_eq_true rfl)) dX11_hold_30 ⟨Nat.le_of_ble_eq_true rfl, Nat.le_of_ble_eq_true rfl⟩) hS (fun q _ h => XA.le hS.1 q h) (XA.le hS.1) (fun x t H locs ht hvm hw hB _ _ hS => ?_)
        have hP := xB.at ht hB
        clear hB ht hvm
        obtain ⟨st5, sl6, so7⟩ := x
        obtain ⟨hGst5, hOst5, hw⟩ := hw
        dsimp only at hGst5 hOst5 hw
        replace hOst5 := hOst5.symm
        subst hOst5
        have hP : va_P (dC, dI) vwCl (xw A C nb st5 sl6 so) _ := hP
        have hG : XG [1, 2, 4, 5, 13, 12, 14] st st5 := hG.tr hGst5 (by decide)
        obtain ⟨hf8, hf9⟩ := hw
        have hni : NI st sl st5 sl6 := hni.tr hf8
        have hmk : MKD st5 sl6 := hf9
        refine lv_aload_n hx hb dX11_hold_33 rfl (lv_at hl 0 rfl) ?_
        refine lv_aload_n hx hb dX11_hold_34 rfl (lv_at hl 0 rfl) ?_
        refine va_get (D := (dC, dI)) (ci := 10) (v := .ref (A (36 + 20 * 0))) (C := RX11) (T := TX11) (N := 19) hx hb hts ii_X11_hold_X11 hown hK hP 0 (xw_is (r := 0) (by omega) (xc_fix (r := 0) (by omega))) rfl 1 (by decide) (hts _ mm_X11_hold_1) (fun _ hh => hh) rfl dX11_hold_35 ?_
        refine lv_iload_n hx hb dX11_hold_38 rfl (lv_at hl 1 rfl) ?_
        refine lv_iload_n hx hb dX11_hold_39 rfl (lv_at hl 2 rfl) ?_
        refine lv_iconst (v := 1) hx hb dX11_hold_40 (by decide) ?_
        refine lv_icmp_ne (tgt := 48) hx hb dX11_hold_41 (by decide) (fun c4 => ?_) (fun c4 => ?_)
        · refine lv_iconst (v := 0) hx hb dX11_hold_48 (by decide) ?_
          refine va_calli (va_runV (As := [.int (nI n2), .int 0]) (rest := [.ref (A 0)]) ⟨hx, hb, hml, hown, hts⟩ (x_X4_holdDog l dC dI ad E hEE A C nb _ hN st5 sl6 so 0 n2 0 (by omega) (by omega) (by omega) hG.1) (cwV 2 hts gX11_hold_X4_holdDog rfl rfl rfl (by decide +kernel) ⟨Nat.le_of_ble_eq_true rfl, Nat.le_of_ble_eq_true rfl⟩) ⟨fun a U g mk q => ⟨q.1, xPre.blind hEE q.2⟩, va_recv hK hP (ci := 5) (q0 := (36 + 20 * 0)) rfl (xw_is (r := (36 + 20 * 0)) (by omega) (xc_pk (i := 0) (o := 0) (by omega) (by omega))), fun U hU hW => ⟨rfl, xPre.of hEE hP hK hE hS hU hW⟩⟩ rfl rfl hl.1 rfl (lv_room (Nat.le_of_ble_eq_true rfl)) dX11_hold_49 ⟨Nat.le_of_ble_eq_true rfl, Nat.le_of_ble_eq_true rfl⟩) hS (fun q _ h => XA.le hS.1 q h) (XA.le hS.1) (fun r10 x t H locs ht hvm hw hB _ _ hS => ?_)
          have hP := xB.at ht hB
          clear hB ht hvm
          obtain ⟨st11, sl12, so13⟩ := x
          obtain ⟨hGst11, hLGst11, hOst11, hw⟩ := hw
          dsimp only at hGst11 hLGst11 hOst11 hw
          replace hOst11 := hOst11.symm
          subst hOst11
          have hP : va_P (dC, dI) vwCl (xw A C nb st11 sl12 so) _ := hP
          have hG : XG [1, 2, 4, 5, 13, 12, 14] st st11 := hG.tr hGst11 (by decide)
          clear hw
          have hni : NI st sl st11 sl12 := hni.mg hGst11 (by decide) (by decide) hLGst11
          have hmk : MKD st11 sl12 := hmk.mg hGst11 (by decide) (by decide) hLGst11
          refine va_calli (va_runV (As := [.int r10]) (rest := []) ⟨hx, hb, hml, hown, hts⟩ (x_X11_keepIfDone l dC dI ad E hEE A C nb _ hN st11 sl12 so r10  hG.1) (cwV 1 hts gX11_hold_X11_keepIfDone rfl rfl rfl (by decide +kernel) ⟨Nat.le_of_ble_eq_true rfl, Nat.le_of_ble_eq_true rfl⟩) ⟨fun a U g mk q => ⟨q.1, xPre.blind hEE q.2⟩, va_recv hK hP (ci := 10) (q0 := 0) rfl (xw_is (r := 0) (by omega) (xc_fix (r := 0) (by omega))), fun U hU hW => ⟨rfl, xPre.of hEE hP hK hE hS hU hW⟩⟩ rfl rfl hl.1 rfl (lv_room (Nat.le_of_ble_eq_true rfl)) dX11_hold_52 ⟨Nat.le_of_ble_eq_true rfl, Nat.le_of_ble_eq_true rfl⟩) hS (fun q _ h => XA.le hS.1 q h) (XA.le hS.1) (fun r14 x t H locs ht hvm hw hB _ _ hS => ?_)
          have hP := xB.at ht hB
          clear hB ht hvm
          obtain ⟨st15, sl16, so17⟩ := x
          obtain ⟨hGst15, hLGst15, hOst15, hw⟩ := hw
          dsimp only at hGst15 hLGst15 hOst15 hw
          replace hOst15 := hOst15.symm
          subst hOst15
          have hP : va_P (dC, dI) vwCl (xw A C nb st15 sl16 so) _ := hP
          have hG : XG [1, 2, 4, 5, 13, 12, 14] st st15 := hG.tr hGst15 (by decide)
          have hf18 := hw
          have hni : NI st sl st15 sl16 := hni.kp hmk hf18 hGst15 (by decide) hLGst15
          exact W.iret (v := r14) hx hb hr (fun t ht hW => ⟨⟨r14, (st15, sl16, so), rfl, ⟨hG, rfl, hni⟩, xB.of ht hP⟩, hS.F ht⟩) hS.2.2 dX11_hold_55
        · refine lv_iconst (v := 1) hx hb dX11_hold_44 (by decide) ?_
          refine lv_goto (tgt := 49) hx hb dX11_hold_45 (by decide) ?_
          refine va_calli (va_runV (As := [.int (nI n2), .int 1]) (rest := [.ref (A 0)]) ⟨hx, hb, hml, hown, hts⟩ (x_X4_holdDog l dC dI ad E hEE A C nb _ hN st5 sl6 so 0 n2 1 (by omega) (by omega) (by omega) hG.1) (cwV 2 hts gX11_hold_X4_holdDog rfl rfl rfl (by decide +kernel) ⟨Nat.le_of_ble_eq_true rfl, Nat.le_of_ble_eq_true rfl⟩) ⟨fun a U g mk q => ⟨q.1, xPre.blind hEE q.2⟩, va_recv hK hP (ci := 5) (q0 := (36 + 20 * 0)) rfl (xw_is (r := (36 + 20 * 0)) (by omega) (xc_pk (i := 0) (o := 0) (by omega) (by omega))), fun U hU hW => ⟨rfl, xPre.of hEE hP hK hE hS hU hW⟩⟩ rfl rfl hl.1 rfl (lv_room (Nat.le_of_ble_eq_true rfl)) dX11_hold_49 ⟨Nat.le_of_ble_eq_true rfl, Nat.le_of_ble_eq_true rfl⟩) hS (fun q _ h => XA.le hS.1 q h) (XA.le hS.1) (fun r19 x t H locs ht hvm hw hB _ _ hS => ?_)
          have hP := xB.at ht hB
          clear hB ht hvm
          obtain ⟨st20, sl21, so22⟩ := x
          obtain ⟨hGst20, hLGst20, hOst20, hw⟩ := hw
          dsimp only at hGst20 hLGst20 hOst20 hw
          replace hOst20 := hOst20.symm
          subst hOst20
          have hP : va_P (dC, dI) vwCl (xw A C nb st20 sl21 so) _ := hP
          have hG : XG [1, 2, 4, 5, 13, 12, 14] st st20 := hG.tr hGst20 (by decide)
          clear hw
          have hni : NI st sl st20 sl21 := hni.mg hGst20 (by decide) (by decide) hLGst20
          have hmk : MKD st20 sl21 := hmk.mg hGst20 (by decide) (by decide) hLGst20
          refine va_calli (va_runV (As := [.int r19]) (rest := []) ⟨hx, hb, hml, hown, hts⟩ (x_X11_keepIfDone l dC dI ad E hEE A C nb _ hN st20 sl21 so r19  hG.1) (cwV 1 hts gX11_hold_X11_keepIfDone rfl rfl rfl (by decide +kernel) ⟨Nat.le_of_ble_eq_true rfl, Nat.le_of_ble_eq_true rfl⟩) ⟨fun a U g mk q => ⟨q.1, xPre.blind hEE q.2⟩, va_recv hK hP (ci := 10) (q0 := 0) rfl (xw_is (r := 0) (by omega) (xc_fix (r := 0) (by omega))), fun U hU hW => ⟨rfl, xPre.of hEE hP hK hE hS hU hW⟩⟩ rfl rfl hl.1 rfl (lv_room (Nat.le_of_ble_eq_true rfl)) dX11_hold_52 ⟨Nat.le_of_ble_eq_true rfl, Nat.le_of_ble_eq_true rfl⟩) hS (fun q _ h => XA.le hS.1 q h) (XA.le hS.1) (fun r23 x t H locs ht hvm hw hB _ _ hS => ?_)
          have hP := xB.at ht hB
          clear hB ht hvm
          obtain ⟨st24, sl25, so26⟩ := x
          obtain ⟨hGst24, hLGst24, hOst24, hw⟩ := hw
          dsimp only at hGst24 hLGst24 hOst24 hw
          replace hOst24 := hOst24.symm
          subst hOst24
          have hP : va_P (dC, dI) vwCl (xw A C nb st24 sl25 so) _ := hP
          have hG : XG [1, 2, 4, 5, 13, 12, 14] st st24 := hG.tr hGst24 (by decide)
          have hf27 := hw
          have hni : NI st sl st24 sl25 := hni.kp hmk hf27 hGst24 (by decide) hLGst24
          exact W.iret (v := r23) hx hb hr (fun t ht hW => ⟨⟨r23, (st24, sl25, so), rfl, ⟨hG, rfl, hni⟩, xB.of ht hP⟩, hS.F ht⟩) hS.2.2 dX11_hold_55
      · refine lv_iconst (v := (-1)) hx hb dX11_hold_20 (by decide) ?_
        exact W.iret (v := (-1)) hx hb hr (fun t ht hW => ⟨⟨(-1), (st, sl, so), rfl, ⟨hG, rfl, hni⟩, xB.of ht hP⟩, hS.F ht⟩) hS.2.2 dX11_hold_21
  · refine lv_if_eq (tgt := 20) hx hb dX11_hold_8 (by decide) (fun _ => ?_) (fun cc => absurd (by decide) cc)
    refine lv_iconst (v := (-1)) hx hb dX11_hold_20 (by decide) ?_
    exact W.iret (v := (-1)) hx hb hr (fun t ht hW => ⟨⟨(-1), (st, sl, so), rfl, ⟨hG, rfl, hni⟩, xB.of ht hP⟩, hS.F ht⟩) hS.2.2 dX11_hold_21
set_option maxHeartbeats 4000000 in
set_option maxRecDepth 100000 in
theorem x_X11_come (l : Launch) (dC : Nat → ClassId) (dI : Nat → Nat → Nat) (ad : Nat → Nat) (E : EP) (hEE : EC ad E) (A : Nat → Nat) (C : Nat → ClassId) (nb sz : Nat) (hN : XN A) (st : Nat → Nat → Int32) (sl : Nat → Nat → Int64) (so : Nat → XR) (va : Int32) (vb : Int32) (vc : Int32) (vd : Int32) (hI : XI st) : Met l yX11_come wsX11_come ({ frames := 3, cells := 0, slots := 0, locals := 64 }) (va_Pc [.ref (A 0), .int va, .int vb, .int vc, .int vd] (xPre E dC dI A C nb sz st sl so)) (va_Qi (fun (r : Int32) (x : XT) => XG [1, 2, 4, 5, 13, 12, 14] st x.1 ∧ x.2.2 = so ∧ (NI st sl x.1 x.2.1)) (xB dC dI A C nb) (XA A sz)) 0 0 (XA A sz) := by
  refine Met.ofW (cc := cX11_come) (maxL := 5) (ret := (some .int)) (by decide) rfl ?_
  intro p e s m args below meth c s₁ B hml hv
  obtain ⟨rfl, hsz, hP, hK, hE⟩ := hv
  have hx := B.exec
  have hb := B.bytes
  have hr := B.returns
  have hts := atoms_spec (ws := wsX11_come) B.pre
  have hown : s.vm.findClass RX11 = some m.cls := findClass_of_methodNamed B.named
  subst hsz
  have hEv := hEE.1 _ _ _ hE
  have hS : va_S (XA A s.heap.size) s.heap s.heap [] := va_S.rf
  have hG : XG [1, 2, 4, 5, 13, 12, 14] st st := XG.rf hI
  have hl := lv_entry ([.ref (A 0), .int va, .int vb, .int vc, .int vd]) (n := 5) (Nat.le_of_ble_eq_true rfl)
  rw [lg_entry_eq]
  generalize (lg_sl ([.ref (A 0), .int va, .int vb, .int vc, .int vd]) ++ List.replicate (5 - (lg_sl ([.ref (A 0), .int va, .int vb, .int vc, .int vd])).length) Slot.unset).toArray = ls at hl ⊢
  have hl : lv_has ls 5 [(0, .ref (A 0)), (1, .int va), (2, .int vb), (3, .int vc), (4, .int vd)] := hl
  have hni : NI st sl st sl := NI.rf
  refine lv_aload_n hx hb dX11_come_0 rfl (lv_at hl 0 rfl) ?_
  refine va_get (D := (dC, dI)) (ci := 10) (v := .ref (A (36 + 20 * 0))) (C := RX11) (T := TX11) (N := 19) hx hb hts ii_X11_come_X11 hown hK hP 0 (xw_is (r := 0) (by omega) (xc_fix (r := 0) (by omega))) rfl 1 (by decide) (hts _ mm_X11_come_1) (fun _ hh => hh) rfl dX11_come_1 ?_
  refine lv_iload_n hx hb dX11_come_4 rfl (lv_at hl 1 rfl) ?_
  refine va_calli (va_runV (As := [.int va]) (rest := []) ⟨hx, hb, hml, hown, hts⟩ (x_X4_hasPerson l dC dI ad E hEE A C nb _ hN st sl so 0 va (by omega) hG.1) (cwV 1 hts gX11_come_X4_hasPerson rfl rfl rfl (by decide +kernel) ⟨Nat.le_of_ble_eq_true rfl, Nat.le_of_ble_eq_true rfl⟩) ⟨fun a U g mk q => ⟨q.1, xPre.blind hEE q.2⟩, va_recv hK hP (ci := 5) (q0 := (36 + 20 * 0)) rfl (xw_is (r := (36 + 20 * 0)) (by omega) (xc_pk (i := 0) (o := 0) (by omega) (by omega))), fun U hU hW => ⟨rfl, xPre.of hEE hP hK hE hS hU hW⟩⟩ rfl rfl hl.1 rfl (lv_room (Nat.le_of_ble_eq_true rfl)) dX11_come_5 ⟨Nat.le_of_ble_eq_true rfl, Nat.le_of_ble_eq_true rfl⟩) hS (fun q _ h => XA.le hS.1 q h) (XA.le hS.1) (fun r1 x t H locs ht hvm hw hB _ _ hS => ?_)
  have hP := xB.at ht hB
  clear hB ht hvm
  obtain ⟨rfl, hw⟩ := hw
  have hP : va_P (dC, dI) vwCl (xw A C nb st sl so) _ := hP
  rcases hw with ⟨n2, rfl, hf3, rfl⟩ | rfl
  · refine lv_if_eq (tgt := 31) hx hb dX11_come_8 (by decide) (fun cc => absurd cc (by decide)) (fun _ => ?_)
    refine lv_aload_n hx hb dX11_come_11 rfl (lv_at hl 0 rfl) ?_
    refine va_get (D := (dC, dI)) (ci := 10) (v := .ref (A (36 + 20 * 0))) (C := RX11) (T := TX11) (N := 19) hx hb hts ii_X11_come_X11 hown hK hP 0 (xw_is (r := 0) (by omega) (xc_fix (r := 0) (by omega))) rfl 1 (by decide) (hts _ mm_X11_come_1) (fun _ hh => hh) rfl dX11_come_12 ?_
    refine lv_iload_n hx hb dX11_come_15 rfl (lv_at hl 2 rfl) ?_
    refine va_calli (va_runV (As := [.int vb]) (rest := []) ⟨hx, hb, hml, hown, hts⟩ (x_X4_hasPlace l dC dI ad E hEE A C nb _ hN st sl so 0 vb (by omega) hG.1) (cwV 1 hts gX11_come_X4_hasPlace rfl rfl rfl (by decide +kernel) ⟨Nat.le_of_ble_eq_true rfl, Nat.le_of_ble_eq_true rfl⟩) ⟨fun a U g mk q => ⟨q.1, xPre.blind hEE q.2⟩, va_recv hK hP (ci := 5) (q0 := (36 + 20 * 0)) rfl (xw_is (r := (36 + 20 * 0)) (by omega) (xc_pk (i := 0) (o := 0) (by omega) (by omega))), fun U hU hW => ⟨rfl, xPre.of hEE hP hK hE hS hU hW⟩⟩ rfl rfl hl.1 rfl (lv_room (Nat.le_of_ble_eq_true rfl)) dX11_come_16 ⟨Nat.le_of_ble_eq_true rfl, Nat.le_of_ble_eq_true rfl⟩) hS (fun q _ h => XA.le hS.1 q h) (XA.le hS.1) (fun r4 x t H locs ht hvm hw hB _ _ hS => ?_)
    have hP := xB.at ht hB
    clear hB ht hvm
    obtain ⟨rfl, hw⟩ := hw
    have hP : va_P (dC, dI) vwCl (xw A C nb st sl so) _ := hP
    rcases hw with ⟨n5, rfl, hf6, rfl⟩ | rfl
    · refine lv_if_eq (tgt := 31) hx hb dX11_come_19 (by decide) (fun cc => absurd cc (by decide)) (fun _ => ?_)
      refine lv_iload_n hx hb dX11_come_22 rfl (lv_at hl 3 rfl) ?_
      refine lv_iload hx hb dX11_come_23 (lv_at hl 4 rfl) ?_
      refine va_calli (va_runS (As := [.int vc, .int vd]) (rest := []) ⟨hx, hb, hml, hown, hts⟩ (x_X11_areHours l dC dI ad E hEE A C nb _ hN st sl so vc vd  hG.1) (va_cwS 2 hts gX11_come_X11_areHours rfl rfl rfl (by decide +kernel) ⟨Nat.le_of_ble_eq_true rfl, Nat.le_of_ble_eq_true rfl⟩) ⟨fun a U g mk q => ⟨q.1, xPre.blind hEE q.2⟩, fun U hU hW => ⟨rfl, xPre.of hEE hP hK hE hS hU hW⟩⟩ rfl rfl hl.1 rfl (lv_room (Nat.le_of_ble_eq_true rfl)) dX11_come_25 ⟨Nat.le_of_ble_eq_true rfl, Nat.le_of_ble_eq_true rfl⟩) hS (fun q _ h => XA.le hS.1 q h) (XA.le hS.1) (fun r7 x t H locs ht hvm hw hB _ _ hS => ?_)
      have hP := xB.at ht hB
      clear hB ht hvm
      obtain ⟨rfl, hw⟩ := hw
      have hP : va_P (dC, dI) vwCl (xw A C nb st sl so) _ := hP
      rcases hw with rfl | rfl
      · refine lv_if_ne (tgt := 33) hx hb dX11_come_28 (by decide) (fun _ => ?_) (fun cc => absurd cc (by decide))
        refine lv_aload_n hx hb dX11_come_33 rfl (lv_at hl 0 rfl) ?_
        refine va_get (D := (dC, dI)) (ci := 10) (v := .ref (A 11)) (C := RX11) (T := TX11) (N := 19) hx hb hts ii_X11_come_X11 hown hK hP 0 (xw_is (r := 0) (by omega) (xc_fix (r := 0) (by omega))) rfl 8 (by decide) (hts _ mm_X11_come_2) (fun _ hh => hh) rfl dX11_come_34 ?_
        refine lv_aload_n hx hb dX11_come_37 rfl (lv_at hl 0 rfl) ?_
        refine va_get (D := (dC, dI)) (ci := 10) (v := .ref (A (36 + 20 * 0))) (C := RX11) (T := TX11) (N := 19) hx hb hts ii_X11_come_X11 hown hK hP 0 (xw_is (r := 0) (by omega) (xc_fix (r := 0) (by omega))) rfl 1 (by decide) (hts _ mm_X11_come_1) (fun _ hh => hh) rfl dX11_come_38 ?_
        refine va_callv (va_runV (As := [.ref (A (36 + 20 * 0))]) (rest := []) ⟨hx, hb, hml, hown, hts⟩ (x_X3_mark l dC dI ad E hEE A C nb _ hN st sl so  hG.1) (cwV 1 hts gX11_come_X3_mark rfl rfl rfl (by decide +kernel) ⟨Nat.le_of_ble_eq_true rfl, Nat.le_of_ble_eq_true rfl⟩) ⟨fun a U g mk q => ⟨q.1, xPre.blind hEE q.2⟩, va_recv hK hP (ci := 4) (q0 := 11) rfl (xw_is (r := 11) (by omega) (xc_fix (r := 11) (by omega))), fun U hU hW => ⟨rfl, xPre.of hEE hP hK hE hS hU hW⟩⟩ rfl rfl hl.1 rfl (lv_room (Nat.le_of_ble_eq_true rfl)) dX11_come_41 ⟨Nat.le_of_ble_eq_true rfl, Nat.le_of_ble_eq_true rfl⟩) hS (fun q _ h => XA.le hS.1 q h) (XA.le hS.1) (fun x t H locs ht hvm hw hB _ _ hS => ?_)
        have hP := xB.at ht hB
        clear hB ht hvm
        obtain ⟨st9, sl10, so11⟩ := x
        obtain ⟨hGst9, hOst9, hw⟩ := hw
        dsimp only at hGst9 hOst9 hw
        replace hOst9 := hOst9.symm
        subst hOst9
        have hP : va_P (dC, dI) vwCl (xw A C nb st9 sl10 so) _ := hP
        have hG : XG [1, 2, 4, 5, 13, 12, 14] st st9 := hG.tr hGst9 (by decide)
        obtain ⟨hf12, hf13⟩ := hw
        have hni : NI st sl st9 sl10 := hni.tr hf12
        have hmk : MKD st9 sl10 := hf13
        refine lv_aload_n hx hb dX11_come_44 rfl (lv_at hl 0 rfl) ?_
        refine lv_aload_n hx hb dX11_come_45 rfl (lv_at hl 0 rfl) ?_
        refine va_get (D := (dC, dI)) (ci := 10) (v := .ref (A (36 + 20 * 0))) (C := RX11) (T := TX11) (N := 19) hx hb hts ii_X11_come_X11 hown hK hP 0 (xw_is (r := 0) (by omega) (xc_fix (r := 0) (by omega))) rfl 1 (by decide) (hts _ mm_X11_come_1) (fun _ hh => hh) rfl dX11_come_46 ?_
        refine lv_iload_n hx hb dX11_come_49 rfl (lv_at hl 1 rfl) ?_
        refine lv_iload_n hx hb dX11_come_50 rfl (lv_at hl 2 rfl) ?_
        refine lv_iload_n hx hb dX11_come_51 rfl (lv_at hl 3 rfl) ?_
        refine lv_iload hx hb dX11_come_52 (lv_at hl 4 rfl) ?_
        refine va_calli (va_runV (As := [.int (nI n2), .int (nI n5), .int vc, .int vd]) (rest := [.ref (A 0)]) ⟨hx, hb, hml, hown, hts⟩ (x_X4_bring l dC dI ad E hEE A C nb _ hN st9 sl10 so 0 n2 n5 vc vd (by omega) (by omega) (by omega) hG.1) (cwV 4 hts gX11_come_X4_bring rfl rfl rfl (by decide +kernel) ⟨Nat.le_of_ble_eq_true rfl, Nat.le_of_ble_eq_true rfl⟩) ⟨fun a U g mk q => ⟨q.1, xPre.blind hEE q.2⟩, va_recv hK hP (ci := 5) (q0 := (36 + 20 * 0)) rfl (xw_is (r := (36 + 20 * 0)) (by omega) (xc_pk (i := 0) (o := 0) (by omega) (by omega))), fun U hU hW => ⟨rfl, xPre.of hEE hP hK hE hS hU hW⟩⟩ rfl rfl hl.1 rfl (lv_room (Nat.le_of_ble_eq_true rfl)) dX11_come_54 ⟨Nat.le_of_ble_eq_true rfl, Nat.le_of_ble_eq_true rfl⟩) hS (fun q _ h => XA.le hS.1 q h) (XA.le hS.1) (fun r14 x t H locs ht hvm hw hB _ _ hS => ?_)
        have hP := xB.at ht hB
        clear hB ht hvm
        obtain ⟨st15, sl16, so17⟩ := x
        obtain ⟨hGst15, hLGst15, hOst15, hw⟩ := hw
        dsimp only at hGst15 hLGst15 hOst15 hw
        replace hOst15 := hOst15.symm
        subst hOst15
        have hP : va_P (dC, dI) vwCl (xw A C nb st15 sl16 so) _ := hP
        have hG : XG [1, 2, 4, 5, 13, 12, 14] st st15 := hG.tr hGst15 (by decide)
        clear hw
        have hni : NI st sl st15 sl16 := hni.mg hGst15 (by decide) (by decide) hLGst15
        have hmk : MKD st15 sl16 := hmk.mg hGst15 (by decide) (by decide) hLGst15
        refine va_calli (va_runV (As := [.int r14]) (rest := []) ⟨hx, hb, hml, hown, hts⟩ (x_X11_keepIfDone l dC dI ad E hEE A C nb _ hN st15 sl16 so r14  hG.1) (cwV 1 hts gX11_come_X11_keepIfDone rfl rfl rfl (by decide +kernel) ⟨Nat.le_of_ble_eq_true rfl, Nat.le_of_ble_eq_true rfl⟩) ⟨fun a U g mk q => ⟨q.1, xPre.blind hEE q.2⟩, va_recv hK hP (ci := 10) (q0 := 0) rfl (xw_is (r := 0) (by omega) (xc_fix (r := 0) (by omega))), fun U hU hW => ⟨rfl, xPre.of hEE hP hK hE hS hU hW⟩⟩ rfl rfl hl.1 rfl (lv_room (Nat.le_of_ble_eq_true rfl)) dX11_come_57 ⟨Nat.le_of_ble_eq_true rfl, Nat.le_of_ble_eq_true rfl⟩) hS (fun q _ h => XA.le hS.1 q h) (XA.le hS.1) (fun r18 x t H locs ht hvm hw hB _ _ hS => ?_)
        have hP := xB.at ht hB
        clear hB ht hvm
        obtain ⟨st19, sl20, so21⟩ := x
        obtain ⟨hGst19, hLGst19, hOst19, hw⟩ := hw
        dsimp only at hGst19 hLGst19 hOst19 hw
        replace hOst19 := hOst19.symm
        subst hOst19
        have hP : va_P (dC, dI) vwCl (xw A C nb st19 sl20 so) _ := hP
        have hG : XG [1, 2, 4, 5, 13, 12, 14] st st19 := hG.tr hGst19 (by decide)
        have hf22 := hw
        have hni : NI st sl st19 sl20 := hni.kp hmk hf22 hGst19 (by decide) hLGst19
        exact W.iret (v := r18) hx hb hr (fun t ht hW => ⟨⟨r18, (st19, sl20, so), rfl, ⟨hG, rfl, hni⟩, xB.of ht hP⟩, hS.F ht⟩) hS.2.2 dX11_come_60
      · refine lv_if_ne (tgt := 33) hx hb dX11_come_28 (by decide) (fun cc => absurd (by decide) cc) (fun _ => ?_)
        refine lv_iconst (v := (-1)) hx hb dX11_come_31 (by decide) ?_
        exact W.iret (v := (-1)) hx hb hr (fun t ht hW => ⟨⟨(-1), (st, sl, so), rfl, ⟨hG, rfl, hni⟩, xB.of ht hP⟩, hS.F ht⟩) hS.2.2 dX11_come_32
    · refine lv_if_eq (tgt := 31) hx hb dX11_come_19 (by decide) (fun _ => ?_) (fun cc => absurd (by decide) cc)
      refine lv_iconst (v := (-1)) hx hb dX11_come_31 (by decide) ?_
      exact W.iret (v := (-1)) hx hb hr (fun t ht hW => ⟨⟨(-1), (st, sl, so), rfl, ⟨hG, rfl, hni⟩, xB.of ht hP⟩, hS.F ht⟩) hS.2.2 dX11_come_32
  · refine lv_if_eq (tgt := 31) hx hb dX11_come_8 (by decide) (fun _ => ?_) (fun cc => absurd (by decide) cc)
    refine lv_iconst (v := (-1)) hx hb dX11_come_31 (by decide) ?_
    exact W.iret (v := (-1)) hx hb hr (fun t ht hW => ⟨⟨(-1), (st, sl, so), rfl, ⟨hG, rfl, hni⟩, xB.of ht hP⟩, hS.F ht⟩) hS.2.2 dX11_come_32
