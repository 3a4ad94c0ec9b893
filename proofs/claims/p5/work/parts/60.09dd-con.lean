set_option maxHeartbeats 4000000 in
set_option maxRecDepth 100000 in
theorem x_X11_book (l : Launch) (dC : Nat → ClassId) (dI : Nat → Nat → Nat) (ad : Nat → Nat) (E : EP) (hEE : EC ad E) (A : Nat → Nat) (C : Nat → ClassId) (nb sz : Nat) (hN : XN A) (st : Nat → Nat → Int32) (sl : Nat → Nat → Int64) (so : Nat → XR) (va : Int32) (hI : XI st) (hOI : OI ad so) : Met l yX11_book wsX11_book ({ frames := 10, cells := 0, slots := 0, locals := 225 }) (va_Pc [.ref (A 0), .int va] (xPre E dC dI A C nb sz st sl so)) (va_Qi (fun (r : Int32) (x : XT) => XG [2, 4, 5, 13, 14] st x.1 ∧ OG ad [4] so x.2.2 ∧ ((x.1 1 1 = 0 ∧ (va = 0 ∨ va = 1) ∧ NI st sl x.1 x.2.1) ∨ (x.1 1 1 = st 1 1 ∧ ¬ (va = 0 ∨ va = 1) ∧ NI st sl x.1 x.2.1))) (xB dC dI A C nb) (XA A sz)) 0 0 (XA A sz) := by
  refine Met.ofW (cc := cX11_book) (maxL := 4) (ret := (some .int)) (by decide) rfl ?_
  intro p e s m args below meth c s₁ B hml hv
  obtain ⟨rfl, hsz, hP, hK, hE⟩ := hv
  have hx := B.exec
  have hb := B.bytes
  have hr := B.returns
  have hts := atoms_spec (ws := wsX11_book) B.pre
  have hown : s.vm.findClass RX11 = some m.cls := findClass_of_methodNamed B.named
  subst hsz
  have hEv := hEE.1 _ _ _ hE
  have hS : va_S (XA A s.heap.size) s.heap s.heap [] := va_S.rf
  have hG : XG [2, 4, 5, 13, 14] st st := XG.rf hI
  have hO : OG ad [4] so so := OG.rf hOI
  have hl := lv_entry ([.ref (A 0), .int va]) (n := 4) (Nat.le_of_ble_eq_true rfl)
  rw [lg_entry_eq]
  generalize (lg_sl ([.ref (A 0), .int va]) ++ List.replicate (4 - (lg_sl ([.ref (A 0), .int va])).length) Slot.unset).toArray = ls at hl ⊢
  have hl : lv_has ls 4 [(0, .ref (A 0)), (1, .int va)] := hl
  have hni : NI st sl st sl := NI.rf
  refine lv_iload_n hx hb dX11_book_0 rfl (lv_at hl 1 rfl) ?_
  refine lv_if_eq (tgt := 13) hx hb dX11_book_1 (by decide) (fun c1 => ?_) (fun c1 => ?_)
  · have hl : lv_has ls 4 [(0, .ref (A 0)), (1, .int 0)] := by rw [c1] at hl; exact hl
    refine lv_aload_n hx hb dX11_book_13 rfl (lv_at hl 0 rfl) ?_
    refine va_get (D := (dC, dI)) (ci := 10) (v := .ref (A 1)) (C := RX11) (T := TX11) (N := 19) hx hb hts ii_X11_book_X11 hown hK hP 0 (xw_is (r := 0) (by omega) (xc_fix (r := 0) (by omega))) rfl 0 (by decide) (hts _ mm_X11_book_1) (fun _ hh => hh) rfl dX11_book_14 ?_
    refine lv_sipush (v := 400) hx hb dX11_book_17 (by decide) ?_
    refine va_callv (va_runV (As := [.int 400]) (rest := []) ⟨hx, hb, hml, hown, hts⟩ (x_X8_open l dC dI ad E hEE A C nb _ hN st sl so 400 (by omega) hG.1 hO.1) (cwV 1 hts gX11_book_X8_open rfl rfl rfl (by decide +kernel) ⟨Nat.le_of_ble_eq_true rfl, Nat.le_of_ble_eq_true rfl⟩) ⟨fun a U g mk q => ⟨q.1, xPre.blind hEE q.2⟩, va_recv hK hP (ci := 9) (q0 := 1) rfl (xw_is (r := 1) (by omega) (xc_fix (r := 1) (by omega))), fun U hU hW => ⟨rfl, xPre.of hEE hP hK hE hS hU hW⟩⟩ rfl rfl hl.1 rfl (lv_room (Nat.le_of_ble_eq_true rfl)) dX11_book_20 ⟨Nat.le_of_ble_eq_true rfl, Nat.le_of_ble_eq_true rfl⟩) hS (fun q _ h => XA.le hS.1 q h) (XA.le hS.1) (fun x t H locs ht hvm hw hB _ _ hS => ?_)
    have hP := xB.at ht hB
    clear hB ht hvm
    obtain ⟨st2, sl3, so4⟩ := x
    obtain ⟨hGst2, hLGst2, hOst2, hw⟩ := hw
    dsimp only at hGst2 hLGst2 hOst2 hw
    have hO : OG ad [4] so so4 := hO.tr hOst2 (by decide)
    have hP : va_P (dC, dI) vwCl (xw A C nb st2 sl3 so4) _ := hP
    have hG : XG [2, 4, 5, 13, 14] st st2 := hG.tr hGst2 (by decide)
    have hf5 := hw
    have hni : NI st sl st2 sl3 := hni.mg hGst2 (by decide) (by decide) hLGst2
    refine lv_aload_n hx hb dX11_book_23 rfl (lv_at hl 0 rfl) ?_
    refine va_get (D := (dC, dI)) (ci := 10) (v := .ref (A 4)) (C := RX11) (T := TX11) (N := 19) hx hb hts ii_X11_book_X11 hown hK hP 0 (xw_is (r := 0) (by omega) (xc_fix (r := 0) (by omega))) rfl 4 (by decide) (hts _ mm_X11_book_2) (fun _ hh => hh) rfl dX11_book_24 ?_
    refine lv_aload_n hx hb dX11_book_27 rfl (lv_at hl 0 rfl) ?_
    refine va_get (D := (dC, dI)) (ci := 10) (v := .ref (A 1)) (C := RX11) (T := TX11) (N := 19) hx hb hts ii_X11_book_X11 hown hK hP 0 (xw_is (r := 0) (by omega) (xc_fix (r := 0) (by omega))) rfl 0 (by decide) (hts _ mm_X11_book_1) (fun _ hh => hh) rfl dX11_book_28 ?_
    refine lv_aload_n hx hb dX11_book_31 rfl (lv_at hl 0 rfl) ?_
    refine va_get (D := (dC, dI)) (ci := 10) (v := .ref (A (36 + 20 * 0))) (C := RX11) (T := TX11) (N := 19) hx hb hts ii_X11_book_X11 hown hK hP 0 (xw_is (r := 0) (by omega) (xc_fix (r := 0) (by omega))) rfl 1 (by decide) (hts _ mm_X11_book_3) (fun _ hh => hh) rfl dX11_book_32 ?_
    refine va_callv (va_runV (As := [.ref (A 1), .ref (A (36 + 20 * 0))]) (rest := []) ⟨hx, hb, hml, hown, hts⟩ (x_X0_readAll l dC dI ad E hEE A C nb _ hN st2 sl3 so4  hG.1 hO.1) (cwV 2 hts gX11_book_X0_readAll rfl rfl rfl (by decide +kernel) ⟨Nat.le_of_ble_eq_true rfl, Nat.le_of_ble_eq_true rfl⟩) ⟨fun a U g mk q => ⟨q.1, xPre.blind hEE q.2⟩, va_recv hK hP (ci := 1) (q0 := 4) rfl (xw_is (r := 4) (by omega) (xc_fix (r := 4) (by omega))), fun U hU hW => ⟨rfl, xPre.of hEE hP hK hE hS hU hW⟩⟩ rfl rfl hl.1 rfl (lv_room (Nat.le_of_ble_eq_true rfl)) dX11_book_35 ⟨Nat.le_of_ble_eq_true rfl, Nat.le_of_ble_eq_true rfl⟩) hS (fun q _ h => XA.le hS.1 q h) (XA.le hS.1) (fun x t H locs ht hvm hw hB _ _ hS => ?_)
    have hP := xB.at ht hB
    clear hB ht hvm
    obtain ⟨st7, sl8, so9⟩ := x
    obtain ⟨hGst7, hLGst7, hOst7, hw⟩ := hw
    dsimp only at hGst7 hLGst7 hOst7 hw
    have hO : OG ad [4] so so9 := hO.tr hOst7 (by decide)
    have hP : va_P (dC, dI) vwCl (xw A C nb st7 sl8 so9) _ := hP
    have hG : XG [2, 4, 5, 13, 14] st st7 := hG.tr hGst7 (by decide)
    obtain ⟨n10, hf11, hf12, hf13⟩ := hw
    have hni : NI st sl st7 sl8 := hni.mg hGst7 (by decide) (by decide) hLGst7
    refine lv_aload_n hx hb dX11_book_38 rfl (lv_at hl 0 rfl) ?_
    refine va_callv (va_runV (As := []) (rest := []) ⟨hx, hb, hml, hown, hts⟩ (x_X11_closeTape l dC dI ad E hEE A C nb _ hN st7 sl8 so9  hG.1) (cwV 0 hts gX11_book_X11_closeTape rfl rfl rfl (by decide +kernel) ⟨Nat.le_of_ble_eq_true rfl, Nat.le_of_ble_eq_true rfl⟩) ⟨fun a U g mk q => ⟨q.1, xPre.blind hEE q.2⟩, va_recv hK hP (ci := 10) (q0 := 0) rfl (xw_is (r := 0) (by omega) (xc_fix (r := 0) (by omega))), fun U hU hW => ⟨rfl, xPre.of hEE hP hK hE hS hU hW⟩⟩ rfl rfl hl.1 rfl (lv_room (Nat.le_of_ble_eq_true rfl)) dX11_book_39 ⟨Nat.le_of_ble_eq_true rfl, Nat.le_of_ble_eq_true rfl⟩) hS (fun q _ h => XA.le hS.1 q h) (XA.le hS.1) (fun x t H locs ht hvm hw hB _ _ hS => ?_)
    have hP := xB.at ht hB
    clear hB ht hvm
    obtain ⟨st15, sl16, so17⟩ := x
    obtain ⟨hGst15, hLGst15, hOst15, hw⟩ := hw
    dsimp only at hGst15 hLGst15 hOst15 hw
    replace hOst15 := hOst15.symm
    subst hOst15
    have hP : va_P (dC, dI) vwCl (xw A C nb st15 sl16 so9) _ := hP
    have hG : XG [2, 4, 5, 13, 14] st st15 := hG.tr hGst15 (by decide)
    obtain ⟨hf18, hf19⟩ := hw
    have hni : NI st sl st15 sl16 := hni.mg hGst15 (by decide) (by decide) hLGst15
    refine lv_aload_n hx hb dX11_book_42 rfl (lv_at hl 0 rfl) ?_
    refine va_get (D := (dC, dI)) (ci := 10) (v := .int (st15 0 16)) (C := RX11) (T := TX11) (N := 19) hx hb hts ii_X11_book_X11 hown hK hP 0 (xw_is (r := 0) (by omega) (xc_fix (r := 0) (by omega))) rfl 16 (by decide) (hts _ mm_X11_book_4) (fun _ hh => hh) rfl dX11_book_43 ?_
    obtain ⟨z20, ez20⟩ : ∃ y : Int32, st15 0 16 = y := ⟨_, rfl⟩
    refine zz_top (v := z20) (by exact ez20) ?_
    refine lv_if_eq (tgt := 60) hx hb dX11_book_46 (by decide) (fun c2 => ?_) (fun c2 => ?_)
    · refine lv_iload_n hx hb dX11_book_60 rfl (lv_at hl 1 rfl) ?_
      refine lv_iconst (v := 1) hx hb dX11_book_61 (by decide) ?_
      refine lv_icmp_ne (tgt := 72) hx hb dX11_book_62 (by decide) (fun _ => ?_) (fun cc => absurd cc (by decide))
      refine lv_aload_n hx hb dX11_book_72 rfl (lv_at hl 0 rfl) ?_
      refine va_get (D := (dC, dI)) (ci := 10) (v := .ref (A (36 + 20 * 1))) (C := RX11) (T := TX11) (N := 19) hx hb hts ii_X11_book_X11 hown hK hP 0 (xw_is (r := 0) (by omega) (xc_fix (r := 0) (by omega))) rfl 2 (by decide) (hts _ mm_X11_book_5) (fun _ hh => hh) rfl dX11_book_73 ?_
      refine lv_astore_n (lv' := [(2, .ref (A (36 + 20 * 1))), (0, .ref (A 0)), (1, .int 0)]) hx hb dX11_book_76 rfl hl (by decide) rfl (fun ls hl => ?_)
      refine lv_iload_n hx hb dX11_book_77 rfl (lv_at hl 2 rfl) ?_
      refine lv_iconst (v := 1) hx hb dX11_book_78 (by decide) ?_
      refine lv_icmp_ne (tgt := 103) hx hb dX11_book_79 (by decide) (fun _ => ?_) (fun cc => absurd cc (by decide))
      refine lv_aload_n hx hb dX11_book_103 rfl (lv_at hl 1 rfl) ?_
      refine va_get (D := (dC, dI)) (ci := 10) (v := .ref (A (36 + 20 * 1))) (C := RX11) (T := TX11) (N := 19) hx hb hts ii_X11_book_X11 hown hK hP 0 (xw_is (r := 0) (by omega) (xc_fix (r := 0) (by omega))) rfl 2 (by decide) (hts _ mm_X11_book_5) (fun _ hh => hh) rfl dX11_book_104 ?_
      refine lv_aload_n hx hb dX11_book_107 rfl (lv_at hl 1 rfl) ?_
      refine va_get (D := (dC, dI)) (ci := 10) (v := .ref (A (36 + 20 * 0))) (C := RX11) (T := TX11) (N := 19) hx hb hts ii_X11_book_X11 hown hK hP 0 (xw_is (r := 0) (by omega) (xc_fix (r := 0) (by omega))) rfl 1 (by decide) (hts _ mm_X11_book_3) (fun _ hh => hh) rfl dX11_book_108 ?_
      refine va_callv (va_runV (As := [.ref (A (36 + 20 * 0))]) (rest := []) ⟨hx, hb, hml, hown, hts⟩ (x_X4_copyFrom l dC dI ad E hEE A C nb _ hN st15 sl16 so9 1 0 (by omega) (by omega) hG.1 (by omega)) (cwV 1 hts gX11_book_X4_copyFrom rfl rfl rfl (by decide +kernel) ⟨Nat.le_of_ble_eq_true rfl, Nat.le_of_ble_eq_true rfl⟩) ⟨fun a U g mk q => ⟨q.1, xPre.blind hEE q.2⟩, va_recv hK hP (ci := 5) (q0 := (36 + 20 * 1)) rfl (xw_is (r := (36 + 20 * 1)) (by omega) (xc_pk (i := 1) (o := 0) (by omega) (by omega))), fun U hU hW => ⟨rfl, xPre.of hEE hP hK hE hS hU hW⟩⟩ rfl rfl hl.1 rfl (lv_room (Nat.le_of_ble_eq_true rfl)) dX11_book_111 ⟨Nat.le_of_ble_eq_true rfl, Nat.le_of_ble_eq_true rfl⟩) hS (fun q _ h => XA.le hS.1 q h) (XA.le hS.1) (fun x t H locs ht hvm hw hB _ _ hS => ?_)
      have hP := xB.at ht hB
      clear hB ht hvm
      obtain ⟨st22, sl23, so24⟩ := x
      obtain ⟨hGst22, hOst22, hw⟩ := hw
      dsimp only at hGst22 hOst22 hw
      replace hOst22 := hOst22.symm
      subst hOst22
      have hP : va_P (dC, dI) vwCl (xw A C nb st22 sl23 so9) _ := hP
      have hG : XG [2, 4, 5, 13, 14] st st22 := hG.tr hGst22 (by decide)
      have hf25 := hw
      have hni : NI st sl st22 sl23 := hni.cq hf25 hGst22 (by decide)
      refine lv_aload_n hx hb dX11_book_114 rfl (lv_at hl 1 rfl) ?_
      refine va_get (D := (dC, dI)) (ci := 10) (v := .ref (A 4)) (C := RX11) (T := TX11) (N := 19) hx hb hts ii_X11_book_X11 hown hK hP 0 (xw_is (r := 0) (by omega) (xc_fix (r := 0) (by omega))) rfl 4 (by decide) (hts _ mm_X11_book_2) (fun _ hh => hh) rfl dX11_book_115 ?_
      refine lv_aload_n hx hb dX11_book_118 rfl (lv_at hl 0 rfl) ?_
      refine lv_aload_n hx hb dX11_book_119 rfl (lv_at hl 1 rfl) ?_
      refine va_get (D := (dC, dI)) (ci := 10) (v := .ref (A 10)) (C := RX11) (T := TX11) (N := 19) hx hb hts ii_X11_book_X11 hown hK hP 0 (xw_is (r := 0) (by omega) (xc_fix (r := 0) (by omega))) rfl 7 (by decide) (hts _ mm_X11_book_7) (fun _ hh => hh) rfl dX11_book_120 ?_
      refine va_calli (va_runV (As := [.ref (A (36 + 20 * 1)), .ref (A 10)]) (rest := []) ⟨hx, hb, hml, hown, hts⟩ (x_X0_liveAll l dC dI ad E hEE A C nb _ hN st22 sl23 so9 1 n10 (by omega) hG.1 hO.1 (by rw [hGst22.2 4 5 (by rw [(by decide : xcl 4 5 = 6)]; decide), hGst15.2 4 5 (by rw [(by decide : xcl 4 5 = 6)]; decide), hf11]) (by omega) (BKs.eqf hf13 (fun jj hk => by show st22 6 jj = st7 6 jj; rw [hGst22.2 6 jj (by rw [(by unfold xcl; rfl : xcl 6 jj = 3)]; decide), hGst15.2 6 jj (by rw [(by unfold xcl; rfl : xcl 6 jj = 3)]; decide)]) (fun jj hk => by show so9 5 jj = so9 5 jj; rfl))) (cwV 2 hts gX11_book_X0_liveAll rfl rfl rfl (by decide +kernel) ⟨Nat.le_of_ble_eq_true rfl, Nat.le_of_ble_eq_true rfl⟩) ⟨fun a U g mk q => ⟨q.1, xPre.blind hEE q.2⟩, va_recv hK hP (ci := 1) (q0 := 4) rfl (xw_is (r := 4) (by omega) (xc_fix (r := 4) (by omega))), fun U hU hW => ⟨rfl, xPre.of hEE hP hK hE hS hU hW⟩⟩ rfl rfl hl.1 rfl (lv_room (Nat.le_of_ble_eq_true rfl)) dX11_book_123 ⟨Nat.le_of_ble_eq_true rfl, Nat.le_of_ble_eq_true rfl⟩) hS (fun q _ h => XA.le hS.1 q h) (XA.le hS.1) (fun r26 x t H locs ht hvm hw hB _ _ hS => ?_)
      have hP := xB.at ht hB
      clear hB ht hvm
      obtain ⟨st27, sl28, so29⟩ := x
      obtain ⟨hGst27, hLGst27, hOst27, hw⟩ := hw
      dsimp only at hGst27 hLGst27 hOst27 hw
      replace hOst27 := hOst27.symm
      subst hOst27
      have hP : va_P (dC, dI) vwCl (xw A C nb st27 sl28 so9) _ := hP
      have hG : XG [2, 4, 5, 13, 14] st st27 := hG.tr hGst27 (by decide)
      clear hw
      have hni : NI st sl st27 sl28 := hni.mg hGst27 (by decide) (by decide) hLGst27
      refine lv_istore_n (lv' := [(3, .int r26), (2, .ref (A (36 + 20 * 1))), (0, .ref (A 0)), (1, .int 0)]) hx hb dX11_book_126 rfl hl (by decide) rfl (fun ls hl => ?_)
      refine lv_aload_n hx hb dX11_book_127 rfl (lv_at hl 2 rfl) ?_
      refine va_get (D := (dC, dI)) (ci := 10) (v := .ref (A 17)) (C := RX11) (T := TX11) (N := 19) hx hb hts ii_X11_book_X11 hown hK hP 0 (xw_is (r := 0) (by omega) (xc_fix (r := 0) (by omega))) rfl 13 (by decide) (hts _ mm_X11_book_8) (fun _ hh => hh) rfl dX11_book_128 ?_
      refine lv_iconst (v := 0) hx hb dX11_book_131 (by decide) ?_
      refine lv_aload_n hx hb dX11_book_132 rfl (lv_at hl 2 rfl) ?_
      refine va_get (D := (dC, dI)) (ci := 10) (v := .ref (A 4)) (C := RX11) (T := TX11) (N := 19) hx hb hts ii_X11_book_X11 hown hK hP 0 (xw_is (r := 0) (by omega) (xc_fix (r := 0) (by omega))) rfl 4 (by decide) (hts _ mm_X11_book_2) (fun _ hh => hh) rfl dX11_book_133 ?_
      refine va_getN (host := "OffTheLead") (D := (dC, dI)) (ci := 1) (v := .int (st27 4 6)) (C := RX0) (T := TX0) (N := 7) hx hb hts ii_X11_book_X0 hown hK hP 4 (xw_is (r := 4) (by omega) (xc_fix (r := 4) (by omega))) rfl 6 (by decide) (va_Nw.use rfl (nf_X11_354 hEv)) (fun _ hh => hh) rfl dX11_book_136 ?_
      obtain ⟨z30, ez30⟩ : ∃ y : Int32, st27 4 6 = y := ⟨_, rfl⟩
      refine zz_top (v := z30) (by exact ez30) ?_
      refine va_iast hx hb hK hP (xD hN _ _ _ _ _ _) hS 17 17 (xw_is (r := 17) (by omega) (xc_fix (r := 17) (by omega))) (xt_is (r := 17) (by omega) rfl) (i := 0) (zz_in (by decide)) dX11_book_139 (fun H locs hP _ hS => ?_)
      have hP : va_P (dC, dI) vwCl (xw A C nb (up2 st27 17 0 z30) sl28 so9) H := by rw [← xset (r := 17) (k := 0) (v := z30) (xc_fix (r := 17) (by omega))]; exact hP
      obtain ⟨st31, est31⟩ : ∃ y, y = up2 st27 17 0 z30 := ⟨_, rfl⟩
      have hG : XG [2, 4, 5, 13, 14] st st31 := by rw [est31]; exact hG.up (xz (r := 17) (k := 0) (by decide : xrg 17 0 = 0)) (xpn (c := 0) (by decide : xcl 17 0 = 0) (by decide))
      rw [← est31] at hP
      have hni : NI st sl st31 sl28 := by rw [est31]; exact hni.up (fun q9 a9 h9 => by omega) (by omega)
      refine lv_aload_n hx hb dX11_book_140 rfl (lv_at hl 2 rfl) ?_
      refine va_get (D := (dC, dI)) (ci := 10) (v := .ref (A 17)) (C := RX11) (T := TX11) (N := 19) hx hb hts ii_X11_book_X11 hown hK hP 0 (xw_is (r := 0) (by omega) (xc_fix (r := 0) (by omega))) rfl 13 (by decide) (hts _ mm_X11_book_8) (fun _ hh => hh) rfl dX11_book_141 ?_
      refine lv_iconst (v := 1) hx hb dX11_book_144 (by decide) ?_
      refine lv_iload_n hx hb dX11_book_145 rfl (lv_at hl 0 rfl) ?_
      refine va_iast hx hb hK hP (xD hN _ _ _ _ _ _) hS 17 17 (xw_is (r := 17) (by omega) (xc_fix (r := 17) (by omega))) (xt_is (r := 17) (by omega) rfl) (i := 1) (zz_in (by decide)) dX11_book_146 (fun H locs hP _ hS => ?_)
      have hP : va_P (dC, dI) vwCl (xw A C nb (up2 st31 17 1 r26) sl28 so9) H := by rw [← xset (r := 17) (k := 1) (v := r26) (xc_fix (r := 17) (by omega))]; exact hP
      obtain ⟨st32, est32⟩ : ∃ y, y = up2 st31 17 1 r26 := ⟨_, rfl⟩
      have hG : XG [2, 4, 5, 13, 14] st st32 := by rw [est32]; exact hG.up (xz (r := 17) (k := 1) (by decide : xrg 17 1 = 0)) (xpn (c := 0) (by decide : xcl 17 1 = 0) (by decide))
      rw [← est32] at hP
      have hni : NI st sl st32 sl28 := by rw [est32]; exact hni.up (fun q9 a9 h9 => by omega) (by omega)
      refine lv_aload_n hx hb dX11_book_147 rfl (lv_at hl 2 rfl) ?_
      refine va_get (D := (dC, dI)) (ci := 10) (v := .ref (A 17)) (C := RX11) (T := TX11) (N := 19) hx hb hts ii_X11_book_X11 hown hK hP 0 (xw_is (r := 0) (by omega) (xc_fix (r := 0) (by omega))) rfl 13 (by decide) (hts _ mm_X11_book_8) (fun _ hh => hh) rfl dX11_book_148 ?_
      refine lv_iconst (v := 2) hx hb dX11_book_151 (by decide) ?_
      refine lv_aload_n hx hb dX11_book_152 rfl (lv_at hl 1 rfl) ?_
      refine va_getN (host := "OffTheLead") (D := (dC, dI)) (ci := 5) (v := .int (st32 (36 + 20 * 1) 9)) (C := RX4) (T := TX4) (N := 12) hx hb hts ii_X11_book_X4 hown hK hP (36 + 20 * 1) (xw_is (r := (36 + 20 * 1)) (by omega) (xc_pk (i := 1) (o := 0) (by omega) (by omega))) rfl 9 (by decide) (va_Nw.use rfl (nf_X11_212 hEv)) (fun _ hh => hh) rfl dX11_book_153 ?_
      obtain ⟨z33, ez33⟩ : ∃ y : Int32, st32 (36 + 20 * 1) 9 = y := ⟨_, rfl⟩
      refine zz_top (v := z33) (by exact ez33) ?_
      refine va_iast hx hb hK hP (xD hN _ _ _ _ _ _) hS 17 17 (xw_is (r := 17) (by omega) (xc_fix (r := 17) (by omega))) (xt_is (r := 17) (by omega) rfl) (i := 2) (zz_in (by decide)) dX11_book_156 (fun H locs hP _ hS => ?_)
      have hP : va_P (dC, dI) vwCl (xw A C nb (up2 st32 17 2 z33) sl28 so9) H := by rw [← xset (r := 17) (k := 2) (v := z33) (xc_fix (r := 17) (by omega))]; exact hP
      obtain ⟨st34, est34⟩ : ∃ y, y = up2 st32 17 2 z33 := ⟨_, rfl⟩
      have hG : XG [2, 4, 5, 13, 14] st st34 := by rw [est34]; exact hG.up (xz (r := 17) (k := 2) (by decide : xrg 17 2 = 0)) (xpn (c := 0) (by decide : xcl 17 2 = 0) (by decide))
      rw [← est34] at hP
      have hni : NI st sl st34 sl28 := by rw [est34]; exact hni.up (fun q9 a9 h9 => by omega) (by omega)
      refine lv_aload_n hx hb dX11_book_157 rfl (lv_at hl 2 rfl) ?_
      refine va_get (D := (dC, dI)) (ci := 10) (v := .ref (A 17)) (C := RX11) (T := TX11) (N := 19) hx hb hts ii_X11_book_X11 hown hK hP 0 (xw_is (r := 0) (by omega) (xc_fix (r := 0) (by omega))) rfl 13 (by decide) (hts _ mm_X11_book_8) (fun _ hh => hh) rfl dX11_book_158 ?_
      refine lv_iconst (v := 3) hx hb dX11_book_161 (by decide) ?_
      refine lv_aload_n hx hb dX11_book_162 rfl (lv_at hl 1 rfl) ?_
      refine va_calli (va_runV (As := []) (rest := [.int 3, .ref (A 17)]) ⟨hx, hb, hml, hown, hts⟩ (x_X4_awayBits l dC dI ad E hEE A C nb _ hN st34 sl28 so9 1 (by omega) hG.1) (cwV 0 hts gX11_book_X4_awayBits rfl rfl rfl (by decide +kernel) ⟨Nat.le_of_ble_eq_true rfl, Nat.le_of_ble_eq_true rfl⟩) ⟨fun a U g mk q => ⟨q.1, xPre.blind hEE q.2⟩, va_recv hK hP (ci := 5) (q0 := (36 + 20 * 1)) rfl (xw_is (r := (36 + 20 * 1)) (by omega) (xc_pk (i := 1) (o := 0) (by omega) (by omega))), fun U hU hW => ⟨rfl, xPre.of hEE hP hK hE hS hU hW⟩⟩ rfl rfl hl.1 rfl (lv_room (Nat.le_of_ble_eq_true rfl)) dX11_book_163 ⟨Nat.le_of_ble_eq_true rfl, Nat.le_of_ble_eq_true rfl⟩) hS (fun q _ h => XA.le hS.1 q h) (XA.le hS.1) (fun r35 x t H locs ht hvm hw hB _ _ hS => ?_)
      have hP := xB.at ht hB
      clear hB ht hvm
      obtain ⟨rfl, hw⟩ := hw
      have hP : va_P (dC, dI) vwCl (xw A C nb st34 sl28 so9) _ := hP
      clear hw
      refine va_iast hx hb hK hP (xD hN _ _ _ _ _ _) hS 17 17 (xw_is (r := 17) (by omega) (xc_fix (r := 17) (by omega))) (xt_is (r := 17) (by omega) rfl) (i := 3) (zz_in (by decide)) dX11_book_166 (fun H locs hP _ hS => ?_)
      have hP : va_P (dC, dI) vwCl (xw A C nb (up2 st34 17 3 r35) sl28 so9) H := by rw [← xset (r := 17) (k := 3) (v := r35) (xc_fix (r := 17) (by omega))]; exact hP
      obtain ⟨st36, est36⟩ : ∃ y, y = up2 st34 17 3 r35 := ⟨_, rfl⟩
      have hG : XG [2, 4, 5, 13, 14] st st36 := by rw [est36]; exact hG.up (xz (r := 17) (k := 3) (by decide : xrg 17 3 = 0)) (xpn (c := 0) (by decide : xcl 17 3 = 0) (by decide))
      rw [← est36] at hP
      have hni : NI st sl st36 sl28 := by rw [est36]; exact hni.up (fun q9 a9 h9 => by omega) (by omega)
      refine lv_aload_n hx hb dX11_book_167 rfl (lv_at hl 2 rfl) ?_
      refine va_get (D := (dC, dI)) (ci := 10) (v := .ref (A 4)) (C := RX11) (T := TX11) (N := 19) hx hb hts ii_X11_book_X11 hown hK hP 0 (xw_is (r := 0) (by omega) (xc_fix (r := 0) (by omega))) rfl 4 (by decide) (hts _ mm_X11_book_2) (fun _ hh => hh) rfl dX11_book_168 ?_
      refine va_getN (host := "OffTheLead") (D := (dC, dI)) (ci := 1) (v := .int (st36 4 6)) (C := RX0) (T := TX0) (N := 7) hx hb hts ii_X11_book_X0 hown hK hP 4 (xw_is (r := 4) (by omega) (xc_fix (r := 4) (by omega))) rfl 6 (by decide) (va_Nw.use rfl (nf_X11_354 hEv)) (fun _ hh => hh) rfl dX11_book_171 ?_
      refine zz_top (v := z30) (by show st36 4 6 = _; rw [est36, up2_ne (r := 17) (k := 3) (a := 4) (j := 6) _ _ (by omega), est34, up2_ne (r := 17) (k := 2) (a := 4) (j := 6) _ _ (by omega), est32, up2_ne (r := 17) (k := 1) (a := 4) (j := 6) _ _ (by omega), est31, up2_ne (r := 17) (k := 0) (a := 4) (j := 6) _ _ (by omega), ez30]) ?_
      refine lv_if_ne (tgt := 181) hx hb dX11_book_174 (by decide) (fun c5 => ?_) (fun c5 => ?_)
      · refine lv_iload_n hx hb dX11_book_181 rfl (lv_at hl 0 rfl) ?_
        exact W.iret (v := r26) hx hb hr (fun t ht hW => ⟨⟨r26, (st36, sl28, so9), rfl, ⟨hG, hO, Or.inl ⟨by show st36 1 1 = 0; rw [est36, up2_ne (r := 17) (k := 3) (a := 1) (j := 1) _ _ (by omega), est34, up2_ne (r := 17) (k := 2) (a := 1) (j := 1) _ _ (by omega), est32, up2_ne (r := 17) (k := 1) (a := 1) (j := 1) _ _ (by omega), est31, up2_ne (r := 17) (k := 0) (a := 1) (j := 1) _ _ (by omega), hGst27.2 1 1 (by rw [(by decide : xcl 1 1 = 1)]; decide), hGst22.2 1 1 (by rw [(by decide : xcl 1 1 = 1)]; decide), hf18], Or.inl c1, hni⟩⟩, xB.of ht hP⟩, hS.F ht⟩) hS.2.2 dX11_book_182
      · refine lv_iconst (v := (-1)) hx hb dX11_book_177 (by decide) ?_
        refine lv_goto (tgt := 182) hx hb dX11_book_178 (by decide) ?_
        exact W.iret (v := (-1)) hx hb hr (fun t ht hW => ⟨⟨(-1), (st36, sl28, so9), rfl, ⟨hG, hO, Or.inl ⟨by show st36 1 1 = 0; rw [est36, up2_ne (r := 17) (k := 3) (a := 1) (j := 1) _ _ (by omega), est34, up2_ne (r := 17) (k := 2) (a := 1) (j := 1) _ _ (by omega), est32, up2_ne (r := 17) (k := 1) (a := 1) (j := 1) _ _ (by omega), est31, up2_ne (r := 17) (k := 0) (a := 1) (j := 1) _ _ (by omega), hGst27.2 1 1 (by rw [(by decide : xcl 1 1 = 1)]; decide), hGst22.2 1 1 (by rw [(by decide : xcl 1 1 = 1)]; decide), hf18], Or.inl c1, hni⟩⟩, xB.of ht hP⟩, hS.F ht⟩) hS.2.2 dX11_book_182
    · refine lv_bipush (v := (-2)) hx hb dX11_book_49 (by decide) ?_
      refine lv_aload_n hx hb dX11_book_51 rfl (lv_at hl 0 rfl) ?_
      refine va_get (D := (dC, dI)) (ci := 10) (v := .ref (A 1)) (C := RX11) (T := TX11) (N := 19) hx hb hts ii_X11_book_X11 hown hK hP 0 (xw_is (r := 0) (by omega) (xc_fix (r := 0) (by omega))) rfl 0 (by decide) (hts _ mm_X11_book_1) (fun _ hh => hh) rfl dX11_book_52 ?_
      refine va_getN (host := "OffTheLead") (D := (dC, dI)) (ci := 9) (v := .int (st15 1 14)) (C := RX8) (T := TX8) (N := 15) hx hb hts ii_X11_book_X8 hown hK hP 1 (xw_is (r := 1) (by omega) (xc_fix (r := 1) (by omega))) rfl 14 (by decide) (va_Nw.use rfl (nf_X11_120 hEv)) (fun _ hh => hh) rfl dX11_book_55 ?_
      obtain ⟨z37, ez37⟩ : ∃ y : Int32, st15 1 14 = y := ⟨_, rfl⟩
      refine zz_top (v := z37) (by exact ez37) ?_
      refine lv_isub hx hb dX11_book_58 ?_
      refine lv_topi (fun z38 ez38 => ?_)
      clear ez38
      exact W.iret (v := z38) hx hb hr (fun t ht hW => ⟨⟨z38, (st15, sl16, so9), rfl, ⟨hG, hO, Or.inl ⟨by show st15 1 1 = 0; rw [hf18], Or.inl c1, hni⟩⟩, xB.of ht hP⟩, hS.F ht⟩) hS.2.2 dX11_book_59
  · refine lv_iload_n hx hb dX11_book_4 rfl (lv_at hl 1 rfl) ?_
    refine lv_iconst (v := 1) hx hb dX11_book_5 (by decide) ?_
    refine lv_icmp_eq (tgt := 13) hx hb dX11_book_6 (by decide) (fun c6 => ?_) (fun c6 => ?_)
    · have hl : lv_has ls 4 [(0, .ref (A 0)), (1, .int 1)] := by rw [c6] at hl; exact hl
      refine lv_aload_n hx hb dX11_book_13 rfl (lv_at hl 0 rfl) ?_
      refine va_get (D := (dC, dI)) (ci := 10) (v := .ref (A 1)) (C := RX11) (T := TX11) (N := 19) hx hb hts ii_X11_book_X11 hown hK hP 0 (xw_is (r := 0) (by omega) (xc_fix (r := 0) (by omega))) rfl 0 (by decide) (hts _ mm_X11_book_1) (fun _ hh => hh) rfl dX11_book_14 ?_
      refine lv_sipush (v := 400) hx hb dX11_book_17 (by decide) ?_
      refine va_callv (va_runV (As := [.int 400]) (rest := []) ⟨hx, hb, hml, hown, hts⟩ (x_X8_open l dC dI ad E hEE A C nb _ hN st sl so 400 (by omega) hG.1 hO.1) (cwV 1 hts gX11_book_X8_open rfl rfl rfl (by decide +kernel) ⟨Nat.le_of_ble_eq_true rfl, Nat.le_of_ble_eq_true rfl⟩) ⟨fun a U g mk q => ⟨q.1, xPre.blind hEE q.2⟩, va_recv hK hP (ci := 9) (q0 := 1) rfl (xw_is (r := 1) (by omega) (xc_fix (r := 1) (by omega))), fun U hU hW => ⟨rfl, xPre.of hEE hP hK hE hS hU hW⟩⟩ rfl rfl hl.1 rfl (lv_room (Nat.le_of_ble_eq_true rfl)) dX11_book_20 ⟨Nat.le_of_ble_eq_true rfl, Nat.le_of_ble_eq_true rfl⟩) hS (fun q _ h => XA.le hS.1 q h) (XA.le hS.1) (fun x t H locs ht hvm hw hB _ _ hS => ?_)
      have hP := xB.at ht hB
      clear hB ht hvm
      obtain ⟨st40, sl41, so42⟩ := x
      obtain ⟨hGst40, hLGst40, hOst40, hw⟩ := hw
      dsimp only at hGst40 hLGst40 hOst40 hw
      have hO : OG ad [4] so so42 := hO.tr hOst40 (by decide)
      have hP : va_P (dC, dI) vwCl (xw A C nb st40 sl41 so42) _ := hP
      have hG : XG [2, 4, 5, 13, 14] st st40 := hG.tr hGst40 (by decide)
      have hf43 := hw
      have hni : NI st sl st40 sl41 := hni.mg hGst40 (by decide) (by decide) hLGst40
      refine lv_aload_n hx hb dX11_book_23 rfl (lv_at hl 0 rfl) ?_
      refine va_get (D := (dC, dI)) (ci := 10) (v := .ref (A 4)) (C := RX11) (T := TX11) (N := 19) hx hb hts ii_X11_book_X11 hown hK hP 0 (xw_is (r := 0) (by omega) (xc_fix (r := 0) (by omega))) rfl 4 (by decide) (hts _ mm_X11_book_2) (fun _ hh => hh) rfl dX11_book_24 ?_
      refine lv_aload_n hx hb dX11_book_27 rfl (lv_at hl 0 rfl) ?_
      refine va_get (D := (dC, dI)) (ci := 10) (v := .ref (A 1)) (C := RX11) (T := TX11) (N := 19) hx hb hts ii_X11_book_X11 hown hK hP 0 (xw_is (r := 0) (by omega) (xc_fix (r := 0) (by omega))) rfl 0 (by decide) (hts _ mm_X11_book_1) (fun _ hh => hh) rfl dX11_book_28 ?_
      refine lv_aload_n hx hb dX11_book_31 rfl (lv_at hl 0 rfl) ?_
      refine va_get (D := (dC, dI)) (ci := 10) (v := .ref (A (36 + 20 * 0))) (C := RX11) (T := TX11) (N := 19) hx hb hts ii_X11_book_X11 hown hK hP 0 (xw_is (r := 0) (by omega) (xc_fix (r := 0) (by omega))) rfl 1 (by decide) (hts _ mm_X11_book_3) (fun _ hh => hh) rfl dX11_book_32 ?_
      refine va_callv (va_runV (As := [.ref (A 1), .ref (A (36 + 20 * 0))]) (rest := []) ⟨hx, hb, hml, hown, hts⟩ (x_X0_readAll l dC dI ad E hEE A C nb _ hN st40 sl41 so42  hG.1 hO.1) (cwV 2 hts gX11_book_X0_readAll rfl rfl rfl (by decide +kernel) ⟨Nat.le_of_ble_eq_true rfl, Nat.le_of_ble_eq_true rfl⟩) ⟨fun a U g mk q => ⟨q.1, xPre.blind hEE q.2⟩, va_recv hK hP (ci := 1) (q0 := 4) rfl (xw_is (r := 4) (by omega) (xc_fix (r := 4) (by omega))), fun U hU hW => ⟨rfl, xPre.of hEE hP hK hE hS hU hW⟩⟩ rfl rfl hl.1 rfl (lv_room (Nat.le_of_ble_eq_true rfl)) dX11_book_35 ⟨Nat.le_of_ble_eq_true rfl, Nat.le_of_ble_eq_true rfl⟩) hS (fun q _ h => XA.le hS.1 q h) (XA.le hS.1) (fun x t H locs ht hvm hw hB _ _ hS => ?_)
      have hP := xB.at ht hB
      clear hB ht hvm
      obtain ⟨st45, sl46, so47⟩ := x
      obtain ⟨hGst45, hLGst45, hOst45, hw⟩ := hw
      dsimp only at hGst45 hLGst45 hOst45 hw
      have hO : OG ad [4] so so47 := hO.tr hOst45 (by decide)
      have hP : va_P (dC, dI) vwCl (xw A C nb st45 sl46 so47) _ := hP
      have hG : XG [2, 4, 5, 13, 14] st st45 := hG.tr hGst45 (by decide)
      obtain ⟨n48, hf49, hf50, hf51⟩ := hw
      have hni : NI st sl st45 sl46 := hni.mg hGst45 (by decide) (by decide) hLGst45
      refine lv_aload_n hx hb dX11_book_38 rfl (lv_at hl 0 rfl) ?_
      refine va_callv (va_runV (As := []) (rest := []) ⟨hx, hb, hml, hown, hts⟩ (x_X11_closeTape l dC dI ad E hEE A C nb _ hN st45 sl46 so47  hG.1) (cwV 0 hts gX11_book_X11_closeTape rfl rfl rfl (by decide +kernel) ⟨Nat.le_of_ble_eq_true rfl, Nat.le_of_ble_eq_true rfl⟩) ⟨fun a U g mk q => ⟨q.1, xPre.blind hEE q.2⟩, va_recv hK hP (ci := 10) (q0 := 0) rfl (xw_is (r := 0) (by omega) (xc_fix (r := 0) (by omega))), fun U hU hW => ⟨rfl, xPre.of hEE hP hK hE hS hU hW⟩⟩ rfl rfl hl.1 rfl (lv_room (Nat.le_of_ble_eq_true rfl)) dX11_book_39 ⟨Nat.le_of_ble_eq_true rfl, Nat.le_of_ble_eq_true rfl⟩) hS (fun q _ h => XA.le hS.1 q h) (XA.le hS.1) (fun x t H locs ht hvm hw hB _ _ hS => ?_)
      have hP := xB.at ht hB
      clear hB ht hvm
      obtain ⟨st53, sl54, so55⟩ := x
      obtain ⟨hGst53, hLGst53, hOst53, hw⟩ := hw
      dsimp only at hGst53 hLGst53 hOst53 hw
      replace hOst53 := hOst53.symm
      subst hOst53
      have hP : va_P (dC, dI) vwCl (xw A C nb st53 sl54 so47) _ := hP
      have hG : XG [2, 4, 5, 13, 14] st st53 := hG.tr hGst53 (by decide)
      obtain ⟨hf56, hf57⟩ := hw
      have hni : NI st sl st53 sl54 := hni.mg hGst53 (by decide) (by decide) hLGst53
      refine lv_aload_n hx hb dX11_book_42 rfl (lv_at hl 0 rfl) ?_
      refine va_get (D := (dC, dI)) (ci := 10) (v := .int (st53 0 16)) (C := RX11) (T := TX11) (N := 19) hx hb hts ii_X11_book_X11 hown hK hP 0 (xw_is (r := 0) (by omega) (xc_fix (r := 0) (by omega))) rfl 16 (by decide) (hts _ mm_X11_book_4) (fun _ hh => hh) rfl dX11_book_43 ?_
      obtain ⟨z58, ez58⟩ : ∃ y : Int32, st53 0 16 = y := ⟨_, rfl⟩
      refine zz_top (v := z58) (by exact ez58) ?_
      refine lv_if_eq (tgt := 60) hx hb dX11_book_46 (by decide) (fun c7 => ?_) (fun c7 => ?_)
      · refine lv_iload_n hx hb dX11_book_60 rfl (lv_at hl 1 rfl) ?_
        refine lv_iconst (v := 1) hx hb dX11_book_61 (by decide) ?_
        refine lv_icmp_ne (tgt := 72) hx hb dX11_book_62 (by decide) (fun cc => absurd (by decide) cc) (fun _ => ?_)
        refine lv_aload_n hx hb dX11_book_65 rfl (lv_at hl 0 rfl) ?_
        refine va_get (D := (dC, dI)) (ci := 10) (v := .ref (A (36 + 20 * 0))) (C := RX11) (T := TX11) (N := 19) hx hb hts ii_X11_book_X11 hown hK hP 0 (xw_is (r := 0) (by omega) (xc_fix (r := 0) (by omega))) rfl 1 (by decide) (hts _ mm_X11_book_3) (fun _ hh => hh) rfl dX11_book_66 ?_
        refine lv_goto (tgt := 76) hx hb dX11_book_69 (by decide) ?_
        refine lv_astore_n (lv' := [(2, .ref (A (36 + 20 * 0))), (0, .ref (A 0)), (1, .int 1)]) hx hb dX11_book_76 rfl hl (by decide) rfl (fun ls hl => ?_)
        refine lv_iload_n hx hb dX11_book_77 rfl (lv_at hl 2 rfl) ?_
        refine lv_iconst (v := 1) hx hb dX11_book_78 (by decide) ?_
        refine lv_icmp_ne (tgt := 103) hx hb dX11_book_79 (by decide) (fun cc => absurd (by decide) cc) (fun _ => ?_)
        refine lv_aload_n hx hb dX11_book_82 rfl (lv_at hl 1 rfl) ?_
        refine va_get (D := (dC, dI)) (ci := 10) (v := .ref (A 11)) (C := RX11) (T := TX11) (N := 19) hx hb hts ii_X11_book_X11 hown hK hP 0 (xw_is (r := 0) (by omega) (xc_fix (r := 0) (by omega))) rfl 8 (by decide) (hts _ mm_X11_book_6) (fun _ hh => hh) rfl dX11_book_83 ?_
        refine lv_aload_n hx hb dX11_book_86 rfl (lv_at hl 1 rfl) ?_
        refine va_get (D := (dC, dI)) (ci := 10) (v := .ref (A (36 + 20 * 0))) (C := RX11) (T := TX11) (N := 19) hx hb hts ii_X11_book_X11 hown hK hP 0 (xw_is (r := 0) (by omega) (xc_fix (r := 0) (by omega))) rfl 1 (by decide) (hts _ mm_X11_book_3) (fun _ hh => hh) rfl dX11_book_87 ?_
        refine va_callv (va_runV (As := [.ref (A (36 + 20 * 0))]) (rest := []) ⟨hx, hb, hml, hown, hts⟩ (x_X3_mark l dC dI ad E hEE A C nb _ hN st53 sl54 so47  hG.1) (cwV 1 hts gX11_book_X3_mark rfl rfl rfl (by decide +kernel) ⟨Nat.le_of_ble_eq_true rfl, Nat.le_of_ble_eq_true rfl⟩) ⟨fun a U g mk q => ⟨q.1, xPre.blind hEE q.2⟩, va_recv hK hP (ci := 4) (q0 := 11) rfl (xw_is (r := 11) (by omega) (xc_fix (r := 11) (by omega))), fun U hU hW => ⟨rfl, xPre.of hEE hP hK hE hS hU hW⟩⟩ rfl rfl hl.1 rfl (lv_room (Nat.le_of_ble_eq_true rfl)) dX11_book_90 ⟨Nat.le_of_ble_eq_true rfl, Nat.le_of_ble_eq_true rfl⟩) hS (fun q _ h => XA.le hS.1 q h) (XA.le hS.1) (fun x t H locs ht hvm hw hB _ _ hS => ?_)
        have hP := xB.at ht hB
        clear hB ht hvm
        obtain ⟨st60, sl61, so62⟩ := x
        obtain ⟨hGst60, hOst60, hw⟩ := hw
        dsimp only at hGst60 hOst60 hw
        replace hOst60 := hOst60.symm
        subst hOst60
        have hP : va_P (dC, dI) vwCl (xw A C nb st60 sl61 so47) _ := hP
        have hG : XG [2, 4, 5, 13, 14] st st60 := hG.tr hGst60 (by decide)
        obtain ⟨hf63, hf64⟩ := hw
        have hni : NI st sl st60 sl61 := hni.tr hf63
        have hmk : MKD st60 sl61 := hf64
        refine lv_aload_n hx hb dX11_book_93 rfl (lv_at hl 1 rfl) ?_
        refine va_get (D := (dC, dI)) (ci := 10) (v := .ref (A 11)) (C := RX11) (T := TX11) (N := 19) hx hb hts ii_X11_book_X11 hown hK hP 0 (xw_is (r := 0) (by omega) (xc_fix (r := 0) (by omega))) rfl 8 (by decide) (hts _ mm_X11_book_6) (fun _ hh => hh) rfl dX11_book_94 ?_
        refine va_callv (va_runV (As := []) (rest := []) ⟨hx, hb, hml, hown, hts⟩ (x_X3_keepMarked l dC dI ad E hEE A C nb _ hN st60 sl61 so47  hG.1) (cwV 0 hts gX11_book_X3_keepMarked rfl rfl rfl (by decide +kernel) ⟨Nat.le_of_ble_eq_true rfl, Nat.le_of_ble_eq_true rfl⟩) ⟨fun a U g mk q => ⟨q.1, xPre.blind hEE q.2⟩, va_recv hK hP (ci := 4) (q0 := 11) rfl (xw_is (r := 11) (by omega) (xc_fix (r := 11) (by omega))), fun U hU hW => ⟨rfl, xPre.of hEE hP hK hE hS hU hW⟩⟩ rfl rfl hl.1 rfl (lv_room (Nat.le_of_ble_eq_true rfl)) dX11_book_97 ⟨Nat.le_of_ble_eq_true rfl, Nat.le_of_ble_eq_true rfl⟩) hS (fun q _ h => XA.le hS.1 q h) (XA.le hS.1) (fun x t H locs ht hvm hw hB _ _ hS => ?_)
        have hP := xB.at ht hB
        clear hB ht hvm
        obtain ⟨st66, sl67, so68⟩ := x
        obtain ⟨hGst66, hLGst66, hOst66, hw⟩ := hw
        dsimp only at hGst66 hLGst66 hOst66 hw
        replace hOst66 := hOst66.symm
        subst hOst66
        have hP : va_P (dC, dI) vwCl (xw A C nb st66 sl67 so47) _ := hP
        have hG : XG [2, 4, 5, 13, 14] st st66 := hG.tr hGst66 (by decide)
        have hf69 := hw
        have hni : NI st sl st66 sl67 := hni.kp hmk hf69 hGst66 (by decide) hLGst66
        refine lv_goto (tgt := 114) hx hb dX11_book_100 (by decide) ?_
        refine lv_aload_n hx hb dX11_book_114 rfl (lv_at hl 1 rfl) ?_
        refine va_get (D := (dC, dI)) (ci := 10) (v := .ref (A 4)) (C := RX11) (T := TX11) (N := 19) hx hb hts ii_X11_book_X11 hown hK hP 0 (xw_is (r := 0) (by omega) (xc_fix (r := 0) (by omega))) rfl 4 (by decide) (hts _ mm_X11_book_2) (fun _ hh => hh) rfl dX11_book_115 ?_
        refine lv_aload_n hx hb dX11_book_118 rfl (lv_at hl 0 rfl) ?_
        refine lv_aload_n hx hb dX11_book_119 rfl (lv_at hl 1 rfl) ?_
        refine va_get (D := (dC, dI)) (ci := 10) (v := .ref (A 10)) (C := RX11) (T := TX11) (N := 19) hx hb hts ii_X11_book_X11 hown hK hP 0 (xw_is (r := 0) (by omega) (xc_fix (r := 0) (by omega))) rfl 7 (by decide) (hts _ mm_X11_book_7) (fun _ hh => hh) rfl dX11_book_120 ?_
        refine va_calli (va_runV (As := [.ref (A (36 + 20 * 0)), .ref (A 10)]) (rest := []) ⟨hx, hb, hml, hown, hts⟩ (x_X0_liveAll l dC dI ad E hEE A C nb _ hN st66 sl67 so47 0 n48 (by omega) hG.1 hO.1 (by rw [hGst66.2 4 5 (by rw [(by decide : xcl 4 5 = 6)]; decide), hGst60.2 4 5 (by rw [(by decide : xcl 4 5 = 6)]; decide), hGst53.2 4 5 (by rw [(by decide : xcl 4 5 = 6)]; decide), hf49]) (by omega) (BKs.eqf hf51 (fun jj hk => by show st66 6 jj = st45 6 jj; rw [hGst66.2 6 jj (by rw [(by unfold xcl; rfl : xcl 6 jj = 3)]; decide), hGst60.2 6 jj (by rw [(by unfold xcl; rfl : xcl 6 jj = 3)]; decide), hGst53.2 6 jj (by rw [(by unfold xcl; rfl : xcl 6 jj = 3)]; decide)]) (fun jj hk => by show so47 5 jj = so47 5 jj; rfl))) (cwV 2 hts gX11_book_X0_liveAll rfl rfl rfl (by decide +kernel) ⟨Nat.le_of_ble_eq_true rfl, Nat.le_of_ble_eq_true rfl⟩) ⟨fun a U g mk q => ⟨q.1, xPre.blind hEE q.2⟩, va_recv hK hP (ci := 1) (q0 := 4) rfl (xw_is (r := 4) (by omega) (xc_fix (r := 4) (by omega))), fun U hU hW => ⟨rfl, xPre.of hEE hP hK hE hS hU hW⟩⟩ rfl rfl hl.1 rfl (lv_room (Nat.le_of_ble_eq_true rfl)) dX11_book_123 ⟨Nat.le_of_ble_eq_true rfl, Nat.le_of_ble_eq_true rfl⟩) hS (fun q _ h => XA.le hS.1 q h) (XA.le hS.1) (fun r70 x t H locs ht hvm hw hB _ _ hS => ?_)
        have hP := xB.at ht hB
        clear hB ht hvm
        obtain ⟨st71, sl72, so73⟩ := x
        obtain ⟨hGst71, hLGst71, hOst71, hw⟩ := hw
        dsimp only at hGst71 hLGst71 hOst71 hw
        replace hOst71 := hOst71.symm
        subst hOst71
        have hP : va_P (dC, dI) vwCl (xw A C nb st71 sl72 so47) _ := hP
        have hG : XG [2, 4, 5, 13, 14] st st71 := hG.tr hGst71 (by decide)
        clear hw
        have hni : NI st sl st71 sl72 := hni.mg hGst71 (by decide) (by decide) hLGst71
        refine lv_istore_n (lv' := [(3, .int r70), (2, .ref (A (36 + 20 * 0))), (0, .ref (A 0)), (1, .int 1)]) hx hb dX11_book_126 rfl hl (by decide) rfl (fun ls hl => ?_)
        refine lv_aload_n hx hb dX11_book_127 rfl (lv_at hl 2 rfl) ?_
        refine va_get (D := (dC, dI)) (ci := 10) (v := .ref (A 17)) (C := RX11) (T := TX11) (N := 19) hx hb hts ii_X11_book_X11 hown hK hP 0 (xw_is (r := 0) (by omega) (xc_fix (r := 0) (by omega))) rfl 13 (by decide) (hts _ mm_X11_book_8) (fun _ hh => hh) rfl dX11_book_128 ?_
        refine lv_iconst (v := 0) hx hb dX11_book_131 (by decide) ?_
        refine lv_aload_n hx hb dX11_book_132 rfl (lv_at hl 2 rfl) ?_
        refine va_get (D := (dC, dI)) (ci := 10) (v := .ref (A 4)) (C := RX11) (T := TX11) (N := 19) hx hb hts ii_X11_book_X11 hown hK hP 0 (xw_is (r := 0) (by omega) (xc_fix (r := 0) (by omega))) rfl 4 (by decide) (hts _ mm_X11_book_2) (fun _ hh => hh) rfl dX11_book_133 ?_
        refine va_getN (host := "OffTheLead") (D := (dC, dI)) (ci := 1) (v := .int (st71 4 6)) (C := RX0) (T := TX0) (N := 7) hx hb hts ii_X11_book_X0 hown hK hP 4 (xw_is (r := 4) (by omega) (xc_fix (r := 4) (by omega))) rfl 6 (by decide) (va_Nw.use rfl (nf_X11_354 hEv)) (fun _ hh => hh) rfl dX11_book_136 ?_
        obtain ⟨z74, ez74⟩ : ∃ y : Int32, st71 4 6 = y := ⟨_, rfl⟩
        refine zz_top (v := z74) (by exact ez74) ?_
        refine va_iast hx hb hK hP (xD hN _ _ _ _ _ _) hS 17 17 (xw_is (r := 17) (by omega) (xc_fix (r := 17) (by omega))) (xt_is (r := 17) (by omega) rfl) (i := 0) (zz_in (by decide)) dX11_book_139 (fun H locs hP _ hS => ?_)
        have hP : va_P (dC, dI) vwCl (xw A C nb (up2 st71 17 0 z74) sl72 so47) H := by rw [← xset (r := 17) (k := 0) (v := z74) (xc_fix (r := 17) (by omega))]; exact hP
        obtain ⟨st75, est75⟩ : ∃ y, y = up2 st71 17 0 z74 := ⟨_, rfl⟩
        have hG : XG [2, 4, 5, 13, 14] st st75 := by rw [est75]; exact hG.up (xz (r := 17) (k := 0) (by decide : xrg 17 0 = 0)) (xpn (c := 0) (by decide : xcl 17 0 = 0) (by decide))
        rw [← est75] at hP
        have hni : NI st sl st75 sl72 := by rw [est75]; exact hni.up (fun q9 a9 h9 => by omega) (by omega)
        refine lv_aload_n hx hb dX11_book_140 rfl (lv_at hl 2 rfl) ?_
        refine va_get (D := (dC, dI)) (ci := 10) (v := .ref (A 17)) (C := RX11) (T := TX11) (N := 19) hx hb hts ii_X11_book_X11 hown hK hP 0 (xw_is (r := 0) (by omega) (xc_fix (r := 0) (by omega))) rfl 13 (by decide) (hts _ mm_X11_book_8) (fun _ hh => hh) rfl dX11_book_141 ?_
        refine lv_iconst (v := 1) hx hb dX11_book_144 (by decide) ?_
        refine lv_iload_n hx hb dX11_book_145 rfl (lv_at hl 0 rfl) ?_
        refine va_iast hx hb hK hP (xD hN _ _ _ _ _ _) hS 17 17 (xw_is (r := 17) (by omega) (xc_fix (r := 17) (by omega))) (xt_is (r := 17) (by omega) rfl) (i := 1) (zz_in (by decide)) dX11_book_146 (fun H locs hP _ hS => ?_)
        have hP : va_P (dC, dI) vwCl (xw A C nb (up2 st75 17 1 r70) sl72 so47) H := by rw [← xset (r := 17) (k := 1) (v := r70) (xc_fix (r := 17) (by omega))]; exact hP
        obtain ⟨st76, est76⟩ : ∃ y, y = up2 st75 17 1 r70 := ⟨_, rfl⟩
        have hG : XG [2, 4, 5, 13, 14] st st76 := by rw [est76]; exact hG.up (xz (r := 17) (k := 1) (by decide : xrg 17 1 = 0)) (xpn (c := 0) (by decide : xcl 17 1 = 0) (by decide))
        rw [← est76] at hP
        have hni : NI st sl st76 sl72 := by rw [est76]; exact hni.up (fun q9 a9 h9 => by omega) (by omega)
        refine lv_aload_n hx hb dX11_book_147 rfl (lv_at hl 2 rfl) ?_
        refine va_get (D := (dC, dI)) (ci := 10) (v := .ref (A 17)) (C := RX11) (T := TX11) (N := 19) hx hb hts ii_X11_book_X11 hown hK hP 0 (xw_is (r := 0) (by omega) (xc_fix (r := 0) (by omega))) rfl 13 (by decide) (hts _ mm_X11_book_8) (fun _ hh => hh) rfl dX11_book_148 ?_
        refine lv_iconst (v := 2) hx hb dX11_book_151 (by decide) ?_
        refine lv_aload_n hx hb dX11_book_152 rfl (lv_at hl 1 rfl) ?_
        refine va_getN (host := "OffTheLead") (D := (dC, dI)) (ci := 5) (v := .int (st76 (36 + 20 * 0) 9)) (C := RX4) (T := TX4) (N := 12) hx hb hts ii_X11_book_X4 hown hK hP (36 + 20 * 0) (xw_is (r := (36 + 20 * 0)) (by omega) (xc_pk (i := 0) (o := 0) (by omega) (by omega))) rfl 9 (by decide) (va_Nw.use rfl (nf_X11_212 hEv)) (fun _ hh => hh) rfl dX11_book_153 ?_
        obtain ⟨z77, ez77⟩ : ∃ y : Int32, st76 (36 + 20 * 0) 9 = y := ⟨_, rfl⟩
        refine zz_top (v := z77) (by exact ez77) ?_
        refine va_iast hx hb hK hP (xD hN _ _ _ _ _ _) hS 17 17 (xw_is (r := 17) (by omega) (xc_fix (r := 17) (by omega))) (xt_is (r := 17) (by omega) rfl) (i := 2) (zz_in (by decide)) dX11_book_156 (fun H locs hP _ hS => ?_)
        have hP : va_P (dC, dI) vwCl (xw A C nb (up2 st76 17 2 z77) sl72 so47) H := by rw [← xset (r := 17) (k := 2) (v := z77) (xc_fix (r := 17) (by omega))]; exact hP
        obtain ⟨st78, est78⟩ : ∃ y, y = up2 st76 17 2 z77 := ⟨_, rfl⟩
        have hG : XG [2, 4, 5, 13, 14] st st78 := by rw [est78]; exact hG.up (xz (r := 17) (k := 2) (by decide : xrg 17 2 = 0)) (xpn (c := 0) (by decide : xcl 17 2 = 0) (by decide))
        rw [← est78] at hP
        have hni : NI st sl st78 sl72 := by rw [est78]; exact hni.up (fun q9 a9 h9 => by omega) (by omega)
        refine lv_aload_n hx hb dX11_book_157 rfl (lv_at hl 2 rfl) ?_
        refine va_get (D := (dC, dI)) (ci := 10) (v := .ref (A 17)) (C := RX11) (T := TX11) (N := 19) hx hb hts ii_X11_book_X11 hown hK hP 0 (xw_is (r := 0) (by omega) (xc_fix (r := 0) (by omega))) rfl 13 (by decide) (hts _ mm_X11_book_8) (fun _ hh => hh) rfl dX11_book_158 ?_
        refine lv_iconst (v := 3) hx hb dX11_book_161 (by decide) ?_
        refine lv_aload_n hx hb dX11_book_162 rfl (lv_at hl 1 rfl) ?_
        refine va_calli (va_runV (As := []) (rest := [.int 3, .ref (A 17)]) ⟨hx, hb, hml, hown, hts⟩ (x_X4_awayBits l dC dI ad E hEE A C nb _ hN st78 sl72 so47 0 (by omega) hG.1) (cwV 0 hts gX11_book_X4_awayBits rfl rfl rfl (by decide +kernel) ⟨Nat.le_of_ble_eq_true rfl, Nat.le_of_ble_eq_true rfl⟩) ⟨fun a U g mk q => ⟨q.1, xPre.blind hEE q.2⟩, va_recv hK hP (ci := 5) (q0 := (36 + 20 * 0)) rfl (xw_is (r := (36 + 20 * 0)) (by omega) (xc_pk (i := 0) (o := 0) (by omega) (by omega))), fun U hU hW => ⟨rfl, xPre.of hEE hP hK hE hS hU hW⟩⟩ rfl rfl hl.1 rfl (lv_room (Nat.le_of_ble_eq_true rfl)) dX11_book_163 ⟨Nat.le_of_ble_eq_true rfl, Nat.le_of_ble_eq_true rfl⟩) hS (fun q _ h => XA.le hS.1 q h) (XA.le hS.1) (fun r79 x t H locs ht hvm hw hB _ _ hS => ?_)
        have hP := xB.at ht hB
        clear hB ht hvm
        obtain ⟨rfl, hw⟩ := hw
        have hP : va_P (dC, dI) vwCl (xw A C nb st78 sl72 so47) _ := hP
        clear hw
        refine va_iast hx hb hK hP (xD hN _ _ _ _ _ _) hS 17 17 (xw_is (r := 17) (by omega) (xc_fix (r := 17) (by omega))) (xt_is (r := 17) (by omega) rfl) (i := 3) (zz_in (by decide)) dX11_book_166 (fun H locs hP _ hS => ?_)
        have hP : va_P (dC, dI) vwCl (xw A C nb (up2 st78 17 3 r79) sl72 so47) H := by rw [← xset (r := 17) (k := 3) (v := r79) (xc_fix (r := 17) (by omega))]; exact hP
        obtain ⟨st80, est80⟩ : ∃ y, y = up2 st78 17 3 r79 := ⟨_, rfl⟩
        have hG : XG [2, 4, 5, 13, 14] st st80 := by rw [est80]; exact hG.up (xz (r := 17) (k := 3) (by decide : xrg 17 3 = 0)) (xpn (c := 0) (by decide : xcl 17 3 = 0) (by decide))
        rw [← est80] at hP
        have hni : NI st sl st80 sl72 := by rw [est80]; exact hni.up (fun q9 a9 h9 => by omega) (by omega)
        refine lv_aload_n hx hb dX11_book_167 rfl (lv_at hl 2 rfl) ?_
        refine va_get (D := (dC, dI)) (ci := 10) (v := .ref (A 4)) (C := RX11) (T := TX11) (N := 19) hx hb hts ii_X11_book_X11 hown hK hP 0 (xw_is (r := 0) (by omega) (xc_fix (r := 0) (by omega))) rfl 4 (by decide) (hts _ mm_X11_book_2) (fun _ hh => hh) rfl dX11_book_168 ?_
        refine va_getN (host := "OffTheLead") (D := (dC, dI)) (ci := 1) (v := .int (st80 4 6)) (C := RX0) (T := TX0) (N := 7) hx hb hts ii_X11_book_X0 hown hK hP 4 (xw_is (r := 4) (by omega) (xc_fix (r := 4) (by omega))) rfl 6 (by decide) (va_Nw.use rfl (nf_X11_354 hEv)) (fun _ hh => hh) rfl dX11_book_171 ?_
        refine zz_top (v := z74) (by show st80 4 6 = _; rw [est80, up2_ne (r := 17) (k := 3) (a := 4) (j := 6) _ _ (by omega), est78, up2_ne (r := 17) (k := 2) (a := 4) (j := 6) _ _ (by omega), est76, up2_ne (r := 17) (k := 1) (a := 4) (j := 6) _ _ (by omega), est75, up2_ne (r := 17) (k := 0) (a := 4) (j := 6) _ _ (by omega), ez74]) ?_
        refine lv_if_ne (tgt := 181) hx hb dX11_book_174 (by decide) (fun c10 => ?_) (fun c10 => ?_)
        · refine lv_iload_n hx hb dX11_book_181 rfl (lv_at hl 0 rfl) ?_
          exact W.iret (v := r70) hx hb hr (fun t ht hW => ⟨⟨r70, (st80, sl72, so47), rfl, ⟨hG, hO, Or.inl ⟨by show st80 1 1 = 0; rw [est80, up2_ne (r := 17) (k := 3) (a := 1) (j := 1) _ _ (by omega), est78, up2_ne (r := 17) (k := 2) (a := 1) (j := 1) _ _ (by omega), est76, up2_ne (r := 17) (k := 1) (a := 1) (j := 1) _ _ (by omega), est75, up2_ne (r := 17) (k := 0) (a := 1) (j := 1) _ _ (by omega), hGst71.2 1 1 (by rw [(by decide : xcl 1 1 = 1)]; decide), hGst66.2 1 1 (by rw [(by decide : xcl 1 1 = 1)]; decide), hGst60.2 1 1 (by rw [(by decide : xcl 1 1 = 1)]; decide), hf56], Or.inr c6, hni⟩⟩, xB.of ht hP⟩, hS.F ht⟩) hS.2.2 dX11_book_182
        · refine lv_iconst (v := (-1)) hx hb dX11_book_177 (by decide) ?_
          refine lv_goto (tgt := 182) hx hb dX11_book_178 (by decide) ?_
          exact W.iret (v := (-1)) hx hb hr (fun t ht hW => ⟨⟨(-1), (st80, sl72, so47), rfl, ⟨hG, hO, Or.inl ⟨by show st80 1 1 = 0; rw [est80, up2_ne (r := 17) (k := 3) (a := 1) (j := 1) _ _ (by omega), est78, up2_ne (r := 17) (k := 2) (a := 1) (j := 1) _ _ (by omega), est76, up2_ne (r := 17) (k := 1) (a := 1) (j := 1) _ _ (by omega), est75, up2_ne (r := 17) (k := 0) (a := 1) (j := 1) _ _ (by omega), hGst71.2 1 1 (by rw [(by decide : xcl 1 1 = 1)]; decide), hGst66.2 1 1 (by rw [(by decide : xcl 1 1 = 1)]; decide), hGst60.2 1 1 (by rw [(by decide : xcl 1 1 = 1)]; decide), hf56], Or.inr c6, hni⟩⟩, xB.of ht hP⟩, hS.F ht⟩) hS.2.2 dX11_book_182
      · refine lv_bipush (v := (-2)) hx hb dX11_book_49 (by decide) ?_
        refine lv_aload_n hx hb dX11_book_51 rfl (lv_at hl 0 rfl) ?_
        refine va_get (D := (dC, dI)) (ci := 10) (v := .ref (A 1)) (C := RX11) (T := TX11) (N := 19) hx hb hts ii_X11_book_X11 hown hK hP 0 (xw_is (r := 0) (by omega) (xc_fix (r := 0) (by omega))) rfl 0 (by decide) (hts _ mm_X11_book_1) (fun _ hh => hh) rfl dX11_book_52 ?_
        refine va_getN (host := "OffTheLead") (D := (dC, dI)) (ci := 9) (v := .int (st53 1 14)) (C := RX8) (T := TX8) (N := 15) hx hb hts ii_X11_book_X8 hown hK hP 1 (xw_is (r := 1) (by omega) (xc_fix (r := 1) (by omega))) rfl 14 (by decide) (va_Nw.use rfl (nf_X11_120 hEv)) (fun _ hh => hh) rfl dX11_book_55 ?_
        obtain ⟨z81, ez81⟩ : ∃ y : Int32, st53 1 14 = y := ⟨_, rfl⟩
        refine zz_top (v := z81) (by exact ez81) ?_
        refine lv_isub hx hb dX11_book_58 ?_
        refine lv_topi (fun z82 ez82 => ?_)
        clear ez82
        exact W.iret (v := z82) hx hb hr (fun t ht hW => ⟨⟨z82, (st53, sl54, so47), rfl, ⟨hG, hO, Or.inl ⟨by show st53 1 1 = 0; rw [hf56], Or.inr c6, hni⟩⟩, xB.of ht hP⟩, hS.F ht⟩) hS.2.2 dX11_book_59
    · refine lv_sipush (v := (-1000)) hx hb dX11_book_9 (by decide) ?_
      exact W.iret (v := (-1000)) hx hb hr (fun t ht hW => ⟨⟨(-1000), (st, sl, so), rfl, ⟨hG, hO, Or.inr ⟨rfl, (fun h9 => h9.elim c1 c6), hni⟩⟩, xB.of ht hP⟩, hS.F ht⟩) hS.2.2 dX11_book_12
set_option maxHeartbeats 4000000 in
set_option maxRecDepth 100000 in
theorem x_X11_told (l : Launch) (dC : Nat → ClassId) (dI : Nat → Nat → Nat) (ad : Nat → Nat) (E : EP) (hEE : EC ad E) (A : Nat → Nat) (C : Nat → ClassId) (nb sz : Nat) (hN : XN A) (st : Nat → Nat → Int32) (sl : Nat → Nat → Int64) (so : Nat → XR) (va : Int32) (hI : XI st) : Met l yX11_told wsX11_told ({ frames := 0, cells := 0, slots := 0, locals := 0 }) (va_Pc [.ref (A 0), .int va] (xPre E dC dI A C nb sz st sl so)) (va_Qi (fun (r : Int32) (x : XT) => XG [1, 2, 4, 5, 13, 15, 7, 12, 14] st x.1 ∧ LGq sl x.2.1 ∧ x.2.2 = so ∧ (True)) (xB dC dI A C nb) (XA A sz)) 0 0 (XA A sz) := by
  refine Met.ofW (cc := cX11_told) (maxL := 2) (ret := (some .int)) (by decide) rfl ?_
  intro p e s m args below meth c s₁ B hml hv
  obtain ⟨rfl, hsz, hP, hK, hE⟩ := hv
  have hx := B.exec
  have hb := B.bytes
  have hr := B.returns
  have hts := atoms_spec (ws := wsX11_told) B.pre
  have hown : s.vm.findClass RX11 = some m.cls := findClass_of_methodNamed B.named
  subst hsz
  have hEv := hEE.1 _ _ _ hE
  have hS : va_S (XA A s.heap.size) s.heap s.heap [] := va_S.rf
  have hG : XG [1, 2, 4, 5, 13, 15, 7, 12, 14] st st := XG.rf hI
  have hl := lv_entry ([.ref (A 0), .int va]) (n := 2) (Nat.le_of_ble_eq_true rfl)
  rw [lg_entry_eq]
  generalize (lg_sl ([.ref (A 0), .int va]) ++ List.replicate (2 - (lg_sl ([.ref (A 0), .int va])).length) Slot.unset).toArray = ls at hl ⊢
  have hl : lv_has ls 2 [(0, .ref (A 0)), (1, .int va)] := hl
  have hL : LGq sl sl := LGq.rf
  refine lv_iload_n hx hb dX11_told_0 rfl (lv_at hl 1 rfl) ?_
  refine lv_if_lt (tgt := 18) hx hb dX11_told_1 (by decide) (fun c1 => ?_) (fun c1 => ?_)
  · refine lv_iconst (v := (-1)) hx hb dX11_told_18 (by decide) ?_
    exact W.iret (v := (-1)) hx hb hr (fun t ht hW => ⟨⟨(-1), (st, sl, so), rfl, ⟨hG, hL, rfl, trivial⟩, xB.of ht hP⟩, hS.F ht⟩) hS.2.2 dX11_told_19
  · obtain ⟨jn1, hjn1, rfl⟩ := nI_of c1
    refine lv_iload_n hx hb dX11_told_4 rfl (lv_at hl 1 rfl) ?_
    refine lv_iconst (v := 4) hx hb dX11_told_5 (by decide) ?_
    refine lv_icmp_ge (tgt := 18) hx hb dX11_told_6 (by decide) (fun c2 => ?_) (fun c2 => ?_)
    · have c2 : 4 ≤ jn1 := (nI_leI (a := 4) (b := jn1) (by omega) (by omega)).mp c2
      refine lv_iconst (v := (-1)) hx hb dX11_told_18 (by decide) ?_
      exact W.iret (v := (-1)) hx hb hr (fun t ht hW => ⟨⟨(-1), (st, sl, so), rfl, ⟨hG, hL, rfl, trivial⟩, xB.of ht hP⟩, hS.F ht⟩) hS.2.2 dX11_told_19
    · have c2 : ¬ 4 ≤ jn1 := fun hh => c2 ((nI_leI (a := 4) (b := jn1) (by omega) (by omega)).mpr hh)
      refine lv_aload_n hx hb dX11_told_9 rfl (lv_at hl 0 rfl) ?_
      refine va_get (D := (dC, dI)) (ci := 10) (v := .ref (A 17)) (C := RX11) (T := TX11) (N := 19) hx hb hts ii_X11_told_X11 hown hK hP 0 (xw_is (r := 0) (by omega) (xc_fix (r := 0) (by omega))) rfl 13 (by decide) (hts _ mm_X11_told_1) (fun _ hh => hh) rfl dX11_told_10 ?_
      refine lv_iload_n hx hb dX11_told_13 rfl (lv_at hl 1 rfl) ?_
      refine va_iald hx hb hK hP 17 17 (xw_is (r := 17) (by omega) (xc_fix (r := 17) (by omega))) (xt_is (r := 17) (by omega) rfl) (i := (nI jn1)) (vp_in_nI (by omega) (by decide)) dX11_told_14 ?_
      obtain ⟨z2, ez2⟩ : ∃ y : Int32, st 17 jn1 = y := ⟨_, rfl⟩
      refine zz_top (v := z2) (by rw [nI_clamp (by omega)]; exact ez2) ?_
      refine lv_goto (tgt := 19) hx hb dX11_told_15 (by decide) ?_
      exact W.iret (v := z2) hx hb hr (fun t ht hW => ⟨⟨z2, (st, sl, so), rfl, ⟨hG, hL, rfl, trivial⟩, xB.of ht hP⟩, hS.F ht⟩) hS.2.2 dX11_told_19
set_option maxHeartbeats 4000000 in
set_option maxRecDepth 100000 in
theorem x_X11_sentence (l : Launch) (dC : Nat → ClassId) (dI : Nat → Nat → Nat) (ad : Nat → Nat) (E : EP) (hEE : EC ad E) (A : Nat → Nat) (C : Nat → ClassId) (nb sz : Nat) (hN : XN A) (st : Nat → Nat → Int32) (sl : Nat → Nat → Int64) (so : Nat → XR) (hI : XI st) (hOI : OI ad so) (hSA : SKall ad st so) : Met l yX11_sentence wsX11_sentence ({ frames := 24, cells := 0, slots := 0, locals := 593 }) (va_Pc [.ref (A 0)] (xPre E dC dI A C nb sz st sl so)) (va_Qi (fun (r : Int32) (x : XT) => XG [2, 13, 15, 7, 14] st x.1 ∧ LGq sl x.2.1 ∧ OG ad [] so x.2.2 ∧ (x.1 1 1 = 0 ∧ SKall ad x.1 x.2.2)) (xB dC dI A C nb) (XA A sz)) 0 0 (XA A sz) := by
  refine Met.ofW (cc := cX11_sentence) (maxL := 1) (ret := (some .int)) (by decide) rfl ?_
  intro p e s m args below meth c s₁ B hml hv
  obtain ⟨rfl, hsz, hP, hK, hE⟩ := hv
  have hx := B.exec
  have hb := B.bytes
  have hr := B.returns
  have hts := atoms_spec (ws := wsX11_sentence) B.pre
  have hown : s.vm.findClass RX11 = some m.cls := findClass_of_methodNamed B.named
  subst hsz
  have hEv := hEE.1 _ _ _ hE
  have hS : va_S (XA A s.heap.size) s.heap s.heap [] := va_S.rf
  have hG : XG [2, 13, 15, 7, 14] st st := XG.rf hI
  have hO : OG ad [] so so := OG.rf hOI
  have hl := lv_entry ([.ref (A 0)]) (n := 1) (Nat.le_of_ble_eq_true rfl)
  rw [lg_entry_eq]
  generalize (lg_sl ([.ref (A 0)]) ++ List.replicate (1 - (lg_sl ([.ref (A 0)])).length) Slot.unset).toArray = ls at hl ⊢
  have hl : lv_has ls 1 [(0, .ref (A 0))] := hl
  have hL : LGq sl sl := LGq.rf
  have hsa : SKall ad st so := hSA
  refine lv_aload_n hx hb dX11_sentence_0 rfl (lv_at hl 0 rfl) ?_
  refine va_get (D := (dC, dI)) (ci := 10) (v := .ref (A 1)) (C := RX11) (T := TX11) (N := 19) hx hb hts ii_X11_sentence_X11 hown hK hP 0 (xw_is (r := 0) (by omega) (xc_fix (r := 0) (by omega))) rfl 0 (by decide) (hts _ mm_X11_sentence_1) (fun _ hh => hh) rfl dX11_sentence_1 ?_
  refine lv_sipush (v := 200) hx hb dX11_sentence_4 (by decide) ?_
  refine va_callv (va_runV (As := [.int 200]) (rest := []) ⟨hx, hb, hml, hown, hts⟩ (x_X8_open l dC dI ad E hEE A C nb _ hN st sl so 200 (by omega) hG.1 hO.1) (cwV 1 hts gX11_sentence_X8_open rfl rfl rfl (by decide +kernel) ⟨Nat.le_of_ble_eq_true rfl, Nat.le_of_ble_eq_true rfl⟩) ⟨fun a U g mk q => ⟨q.1, xPre.blind hEE q.2⟩, va_recv hK hP (ci := 9) (q0 := 1) rfl (xw_is (r := 1) (by omega) (xc_fix (r := 1) (by omega))), fun U hU hW => ⟨rfl, xPre.of hEE hP hK hE hS hU hW⟩⟩ rfl rfl hl.1 rfl (lv_room (Nat.le_of_ble_eq_true rfl)) dX11_sentence_7 ⟨Nat.le_of_ble_eq_true rfl, Nat.le_of_ble_eq_true rfl⟩) hS (fun q _ h => XA.le hS.1 q h) (XA.le hS.1) (fun x t H locs ht hvm hw hB _ _ hS => ?_)
  have hP := xB.at ht hB
  clear hB ht hvm
  obtain ⟨st2, sl3, so4⟩ := x
  obtain ⟨hGst2, hLGst2, hOst2, hw⟩ := hw
  dsimp only at hGst2 hLGst2 hOst2 hw
  have hL : LGq sl sl3 := hL.tr hLGst2
  have hO : OG ad [] so so4 := hO.tr hOst2 (by decide)
  have hP : va_P (dC, dI) vwCl (xw A C nb st2 sl3 so4) _ := hP
  have hG : XG [2, 13, 15, 7, 14] st st2 := hG.tr hGst2 (by decide)
  have hf5 := hw
  have hsa : SKall ad st2 so4 := SKall.mg hsa hGst2 hOst2 (by decide) (by decide) (by decide)
  refine lv_aload_n hx hb dX11_sentence_10 rfl (lv_at hl 0 rfl) ?_
  refine va_get (D := (dC, dI)) (ci := 10) (v := .ref (A (20 + 4 * 1))) (C := RX11) (T := TX11) (N := 19) hx hb hts ii_X11_sentence_X11 hown hK hP 0 (xw_is (r := 0) (by omega) (xc_fix (r := 0) (by omega))) rfl 6 (by decide) (hts _ mm_X11_sentence_2) (fun _ hh => hh) rfl dX11_sentence_11 ?_
  refine va_callv (va_runV (As := []) (rest := []) ⟨hx, hb, hml, hown, hts⟩ (x_clear1 l dC dI ad E hEE A C nb _ hN st2 sl3 so4  hG.1) (cwV 0 hts gX11_sentence_X7_clear rfl rfl rfl (by decide +kernel) ⟨Nat.le_of_ble_eq_true rfl, Nat.le_of_ble_eq_true rfl⟩) ⟨fun a U g mk q => ⟨q.1, xPre.blind hEE q.2⟩, va_recv hK hP (ci := 8) (q0 := (20 + 4 * 1)) rfl (xw_is (r := (20 + 4 * 1)) (by omega) (xc_sn (q := 1) (o := 0) (by omega) (by omega))), fun U hU hW => ⟨rfl, xPre.of hEE hP hK hE hS hU hW⟩⟩ rfl rfl hl.1 rfl (lv_room (Nat.le_of_ble_eq_true rfl)) dX11_sentence_14 ⟨Nat.le_of_ble_eq_true rfl, Nat.le_of_ble_eq_true rfl⟩) hS (fun q _ h => XA.le hS.1 q h) (XA.le hS.1) (fun x t H locs ht hvm hw hB _ _ hS => ?_)
  have hP := xB.at ht hB
  clear hB ht hvm
  obtain ⟨st7, sl8, so9⟩ := x
  obtain ⟨hGst7, hLGst7, hOst7, hw⟩ := hw
  dsimp only at hGst7 hLGst7 hOst7 hw
  have hL : LGq sl sl8 := hL.tr hLGst7
  replace hOst7 := hOst7.symm
  subst hOst7
  have hP : va_P (dC, dI) vwCl (xw A C nb st7 sl8 so4) _ := hP
  have hG : XG [2, 13, 15, 7, 14] st st7 := hG.tr hGst7 (by decide)
  have hf10 := hw
  have hsa : SKall ad st7 so4 := SKall.mgs hsa hGst7 (by decide) (by decide)
  have hsd : SKs ad st7 so4 1 := SKs.zero hf10
  refine lv_aload_n hx hb dX11_sentence_17 rfl (lv_at hl 0 rfl) ?_
  refine va_get (D := (dC, dI)) (ci := 10) (v := .ref (A (20 + 4 * 1))) (C := RX11) (T := TX11) (N := 19) hx hb hts ii_X11_sentence_X11 hown hK hP 0 (xw_is (r := 0) (by omega) (xc_fix (r := 0) (by omega))) rfl 6 (by decide) (hts _ mm_X11_sentence_2) (fun _ hh => hh) rfl dX11_sentence_18 ?_
  refine lv_aload_n hx hb dX11_sentence_21 rfl (lv_at hl 0 rfl) ?_
  refine va_get (D := (dC, dI)) (ci := 10) (v := .ref (A 1)) (C := RX11) (T := TX11) (N := 19) hx hb hts ii_X11_sentence_X11 hown hK hP 0 (xw_is (r := 0) (by omega) (xc_fix (r := 0) (by omega))) rfl 0 (by decide) (hts _ mm_X11_sentence_1) (fun _ hh => hh) rfl dX11_sentence_22 ?_
  refine lv_aload_n hx hb dX11_sentence_25 rfl (lv_at hl 0 rfl) ?_
  refine va_get (D := (dC, dI)) (ci := 10) (v := .ref (A (36 + 20 * 0))) (C := RX11) (T := TX11) (N := 19) hx hb hts ii_X11_sentence_X11 hown hK hP 0 (xw_is (r := 0) (by omega) (xc_fix (r := 0) (by omega))) rfl 1 (by decide) (hts _ mm_X11_sentence_3) (fun _ hh => hh) rfl dX11_sentence_26 ?_
  refine lv_iconst (v := 1) hx hb dX11_sentence_29 (by decide) ?_
  refine va_calli (va_runVN (As := [.ref (A 1), .ref (A (36 + 20 * 0)), .int 1]) (rest := []) ⟨hx, hb, hml, hown, hts⟩ (x_readCond_1 l dC dI ad E hEE A C nb _ hN st7 sl8 so4  hG.1 hO.1) (⟨va_cnB 3 hts gX11_sentence_X7_readCond_n357 rfl rfl rfl (nm_X11_357 hEv) (hts _ mm_X11_sentence_99) (by decide +kernel) ⟨Nat.le_of_ble_eq_true rfl, Nat.le_of_ble_eq_true rfl⟩, (hts _ mm_X11_sentence_103), (hts _ mm_X11_sentence_104)⟩) ⟨fun a U g mk q => ⟨q.1, xPre.blind hEE q.2⟩, va_recv hK hP (ci := 8) (q0 := (20 + 4 * 1)) rfl (xw_is (r := (20 + 4 * 1)) (by omega) (xc_sn (q := 1) (o := 0) (by omega) (by omega))), fun U hU hW => ⟨rfl, xPre.of hEE hP hK hE hS hU hW⟩⟩ rfl rfl hl.1 rfl (lv_room (Nat.le_of_ble_eq_true rfl)) dX11_sentence_30 ⟨Nat.le_of_ble_eq_true rfl, Nat.le_of_ble_eq_true rfl⟩) hS (fun q _ h => XA.le hS.1 q h) (XA.le hS.1) (fun r11 x t H locs ht hvm hw hB _ _ hS => ?_)
  have hP := xB.at ht hB
  clear hB ht hvm
  obtain ⟨st12, sl13, so14⟩ := x
  obtain ⟨hGst12, hLGst12, hOst12, hw⟩ := hw
  dsimp only at hGst12 hLGst12 hOst12 hw
  have hL : LGq sl sl13 := hL.tr hLGst12
  have hO : OG ad [] so so14 := hO.tr hOst12 (by decide)
  have hP : va_P (dC, dI) vwCl (xw A C nb st12 sl13 so14) _ := hP
  have hG : XG [2, 13, 15, 7, 14] st st12 := hG.tr hGst12 (by decide)
  rcases hw with ⟨rfl, hf15⟩ | ⟨rfl, hf16⟩
  · have hsa : SKall ad st12 so14 := SKall.mg hsa hGst12 hOst12 (by decide) (by decide) (by decide)
    have hsd : SKs ad st12 so14 1 := hf15 hsd
    refine lv_pop hx hb dX11_sentence_33 rfl ?_
    refine lv_aload_n hx hb dX11_sentence_34 rfl (lv_at hl 0 rfl) ?_
    refine va_callv (va_runV (As := []) (rest := []) ⟨hx, hb, hml, hown, hts⟩ (x_X11_closeTape l dC dI ad E hEE A C nb _ hN st12 sl13 so14  hG.1) (cwV 0 hts gX11_sentence_X11_closeTape rfl rfl rfl (by decide +kernel) ⟨Nat.le_of_ble_eq_true rfl, Nat.le_of_ble_eq_true rfl⟩) ⟨fun a U g mk q => ⟨q.1, xPre.blind hEE q.2⟩, va_recv hK hP (ci := 10) (q0 := 0) rfl (xw_is (r := 0) (by omega) (xc_fix (r := 0) (by omega))), fun U hU hW => ⟨rfl, xPre.of hEE hP hK hE hS hU hW⟩⟩ rfl rfl hl.1 rfl (lv_room (Nat.le_of_ble_eq_true rfl)) dX11_sentence_35 ⟨Nat.le_of_ble_eq_true rfl, Nat.le_of_ble_eq_true rfl⟩) hS (fun q _ h => XA.le hS.1 q h) (XA.le hS.1) (fun x t H locs ht hvm hw hB _ _ hS => ?_)
    have hP := xB.at ht hB
    clear hB ht hvm
    obtain ⟨st18, sl19, so20⟩ := x
    obtain ⟨hGst18, hLGst18, hOst18, hw⟩ := hw
    dsimp only at hGst18 hLGst18 hOst18 hw
    have hL : LGq sl sl19 := hL.tr hLGst18
    replace hOst18 := hOst18.symm
    subst hOst18
    have hP : va_P (dC, dI) vwCl (xw A C nb st18 sl19 so14) _ := hP
    have hG : XG [2, 13, 15, 7, 14] st st18 := hG.tr hGst18 (by decide)
    obtain ⟨hf21, hf22⟩ := hw
    have hsa : SKall ad st18 so14 := SKall.mgs hsa hGst18 (by decide) (by decide)
    have hsd : SKs ad st18 so14 1 := SKs.mgs hsd (by omega) hGst18 (by decide) (by decide)
    refine lv_aload_n hx hb dX11_sentence_38 rfl (lv_at hl 0 rfl) ?_
    refine va_get (D := (dC, dI)) (ci := 10) (v := .int (st18 0 16)) (C := RX11) (T := TX11) (N := 19) hx hb hts ii_X11_sentence_X11 hown hK hP 0 (xw_is (r := 0) (by omega) (xc_fix (r := 0) (by omega))) rfl 16 (by decide) (hts _ mm_X11_sentence_4) (fun _ hh => hh) rfl dX11_sentence_39 ?_
    obtain ⟨z23, ez23⟩ : ∃ y : Int32, st18 0 16 = y := ⟨_, rfl⟩
    refine zz_top (v := z23) (by exact ez23) ?_
    refine lv_if_eq (tgt := 55) hx hb dX11_sentence_42 (by decide) (fun c1 => ?_) (fun c1 => ?_)
    · refine lv_aload_n hx hb dX11_sentence_55 rfl (lv_at hl 0 rfl) ?_
      refine va_get (D := (dC, dI)) (ci := 10) (v := .ref (A (20 + 4 * 0))) (C := RX11) (T := TX11) (N := 19) hx hb hts ii_X11_sentence_X11 hown hK hP 0 (xw_is (r := 0) (by omega) (xc_fix (r := 0) (by omega))) rfl 5 (by decide) (hts _ mm_X11_sentence_5) (fun _ hh => hh) rfl dX11_sentence_56 ?_
      refine lv_aload_n hx hb dX11_sentence_59 rfl (lv_at hl 0 rfl) ?_
      refine va_get (D := (dC, dI)) (ci := 10) (v := .ref (A (20 + 4 * 1))) (C := RX11) (T := TX11) (N := 19) hx hb hts ii_X11_sentence_X11 hown hK hP 0 (xw_is (r := 0) (by omega) (xc_fix (r := 0) (by omega))) rfl 6 (by decide) (hts _ mm_X11_sentence_2) (fun _ hh => hh) rfl dX11_sentence_60 ?_
      refine va_callv (va_runV (As := [.ref (A (20 + 4 * 1))]) (rest := []) ⟨hx, hb, hml, hown, hts⟩ (x_copyS01 l dC dI ad E hEE A C nb _ hN st18 sl19 so14  hG.1 hO.1) (cwV 1 hts gX11_sentence_X7_copyFrom rfl rfl rfl (by decide +kernel) ⟨Nat.le_of_ble_eq_true rfl, Nat.le_of_ble_eq_true rfl⟩) ⟨fun a U g mk q => ⟨q.1, xPre.blind hEE q.2⟩, va_recv hK hP (ci := 8) (q0 := (20 + 4 * 0)) rfl (xw_is (r := (20 + 4 * 0)) (by omega) (xc_sn (q := 0) (o := 0) (by omega) (by omega))), fun U hU hW => ⟨rfl, xPre.of hEE hP hK hE hS hU hW⟩⟩ rfl rfl hl.1 rfl (lv_room (Nat.le_of_ble_eq_true rfl)) dX11_sentence_63 ⟨Nat.le_of_ble_eq_true rfl, Nat.le_of_ble_eq_true rfl⟩) hS (fun q _ h => XA.le hS.1 q h) (XA.le hS.1) (fun x t H locs ht hvm hw hB _ _ hS => ?_)
      have hP := xB.at ht hB
      clear hB ht hvm
      obtain ⟨st25, sl26, so27⟩ := x
      obtain ⟨hGst25, hLGst25, hOst25, hw⟩ := hw
      dsimp only at hGst25 hLGst25 hOst25 hw
      have hL : LGq sl sl26 := hL.tr hLGst25
      have hO : OG ad [] so so27 := hO.tr hOst25 (by decide)
      have hP : va_P (dC, dI) vwCl (xw A C nb st25 sl26 so27) _ := hP
      have hG : XG [2, 13, 15, 7, 14] st st25 := hG.tr hGst25 (by decide)
      obtain ⟨hf28, hf29⟩ := hw
      have hsa : SKall ad st25 so27 := fun q9 h8 h9 => if e9 : q9 = 0 then by subst e9; exact hf28 hsd else hf29 q9 h8 e9 (hsa q9 h8 h9)
      refine lv_aload_n hx hb dX11_sentence_66 rfl (lv_at hl 0 rfl) ?_
      refine va_get (D := (dC, dI)) (ci := 10) (v := .ref (A (20 + 4 * 0))) (C := RX11) (T := TX11) (N := 19) hx hb hts ii_X11_sentence_X11 hown hK hP 0 (xw_is (r := 0) (by omega) (xc_fix (r := 0) (by omega))) rfl 5 (by decide) (hts _ mm_X11_sentence_5) (fun _ hh => hh) rfl dX11_sentence_67 ?_
      refine va_getN (host := "OffTheLead") (D := (dC, dI)) (ci := 8) (v := .int (st25 (20 + 4 * 0) 4)) (C := RX7) (T := TX7) (N := 5) hx hb hts ii_X11_sentence_X7 hown hK hP (20 + 4 * 0) (xw_is (r := (20 + 4 * 0)) (by omega) (xc_sn (q := 0) (o := 0) (by omega) (by omega))) rfl 4 (by decide) (va_Nw.use rfl (nf_X11_364 hEv)) (fun _ hh => hh) rfl dX11_sentence_70 ?_
      obtain ⟨z30, ez30⟩ : ∃ y : Int32, st25 (20 + 4 * 0) 4 = y := ⟨_, rfl⟩
      refine zz_top (v := z30) (by exact ez30) ?_
      exact W.iret (v := z30) hx hb hr (fun t ht hW => ⟨⟨z30, (st25, sl26, so27), rfl, ⟨hG, hL, hO, ⟨by show st25 1 1 = 0; rw [hGst25.2 1 1 (by rw [(by decide : xcl 1 1 = 1)]; decide), hf21], hsa⟩⟩, xB.of ht hP⟩, hS.F ht⟩) hS.2.2 dX11_sentence_73
    · refine lv_iconst (v := (-1)) hx hb dX11_sentence_45 (by decide) ?_
      refine lv_aload_n hx hb dX11_sentence_46 rfl (lv_at hl 0 rfl) ?_
      refine va_get (D := (dC, dI)) (ci := 10) (v := .ref (A 1)) (C := RX11) (T := TX11) (N := 19) hx hb hts ii_X11_sentence_X11 hown hK hP 0 (xw_is (r := 0) (by omega) (xc_fix (r := 0) (by omega))) rfl 0 (by decide) (hts _ mm_X11_sentence_1) (fun _ hh => hh) rfl dX11_sentence_47 ?_
      refine va_getN (host := "OffTheLead") (D := (dC, dI)) (ci := 9) (v := .int (st18 1 14)) (C := RX8) (T := TX8) (N := 15) hx hb hts ii_X11_sentence_X8 hown hK hP 1 (xw_is (r := 1) (by omega) (xc_fix (r := 1) (by omega))) rfl 14 (by decide) (va_Nw.use rfl (nf_X11_120 hEv)) (fun _ hh => hh) rfl dX11_sentence_50 ?_
      obtain ⟨z31, ez31⟩ : ∃ y : Int32, st18 1 14 = y := ⟨_, rfl⟩
      refine zz_top (v := z31) (by exact ez31) ?_
      refine lv_isub hx hb dX11_sentence_53 ?_
      refine lv_topi (fun z32 ez32 => ?_)
      clear ez32
      exact W.iret (v := z32) hx hb hr (fun t ht hW => ⟨⟨z32, (st18, sl19, so14), rfl, ⟨hG, hL, hO, ⟨by show st18 1 1 = 0; rw [hf21], hsa⟩⟩, xB.of ht hP⟩, hS.F ht⟩) hS.2.2 dX11_sentence_54
  · have hsa : SKall ad st12 so14 := SKall.mg hsa hGst12 hOst12 (by decide) (by decide) (by decide)
    refine lv_pop hx hb dX11_sentence_33 rfl ?_
    refine lv_aload_n hx hb dX11_sentence_34 rfl (lv_at hl 0 rfl) ?_
    refine va_callv (va_runV (As := []) (rest := []) ⟨hx, hb, hml, hown, hts⟩ (x_X11_closeTape l dC dI ad E hEE A C nb _ hN st12 sl13 so14  hG.1) (cwV 0 hts gX11_sentence_X11_closeTape rfl rfl rfl (by decide +kernel) ⟨Nat.le_of_ble_eq_true rfl, Nat.le_of_ble_eq_true rfl⟩) ⟨fun a U g mk q => ⟨q.1, xPre.blind hEE q.2⟩, va_recv hK hP (ci := 10) (q0 := 0) rfl (xw_is (r := 0) (by omega) (xc_fix (r := 0) (by omega))), fun U hU hW => ⟨rfl, xPre.of hEE hP hK hE hS hU hW⟩⟩ rfl rfl hl.1 rfl (lv_room (Nat.le_of_ble_eq_true rfl)) dX11_sentence_35 ⟨Nat.le_of_ble_eq_true rfl, Nat.le_of_ble_eq_true rfl⟩) hS (fun q _ h => XA.le hS.1 q h) (XA.le hS.1) (fun x t H locs ht hvm hw hB _ _ hS => ?_)
    have hP := xB.at ht hB
    clear hB ht hvm
    obtain ⟨st34, sl35, so36⟩ := x
    obtain ⟨hGst34, hLGst34, hOst34, hw⟩ := hw
    dsimp only at hGst34 hLGst34 hOst34 hw
    have hL : LGq sl sl35 := hL.tr hLGst34
    replace hOst34 := hOst34.symm
    subst hOst34
    have hP : va_P (dC, dI) vwCl (xw A C nb st34 sl35 so14) _ := hP
    have hG : XG [2, 13, 15, 7, 14] st st34 := hG.tr hGst34 (by decide)
    obtain ⟨hf37, hf38⟩ := hw
    have hsa : SKall ad st34 so14 := SKall.mgs hsa hGst34 (by decide) (by decide)
    refine lv_aload_n hx hb dX11_sentence_38 rfl (lv_at hl 0 rfl) ?_
    refine va_get (D := (dC, dI)) (ci := 10) (v := .int (st34 0 16)) (C := RX11) (T := TX11) (N := 19) hx hb hts ii_X11_sentence_X11 hown hK hP 0 (xw_is (r := 0) (by omega) (xc_fix (r := 0) (by omega))) rfl 16 (by decide) (hts _ mm_X11_sentence_4) (fun _ hh => hh) rfl dX11_sentence_39 ?_
    obtain ⟨z39, ez39⟩ : ∃ y : Int32, st34 0 16 = y := ⟨_, rfl⟩
    refine zz_top (v := z39) (by exact ez39) ?_
    refine lv_if_eq (tgt := 55) hx hb dX11_sentence_42 (by decide) (fun c2 => ?_) (fun c2 => ?_)
    · exact absurd (hf38.symm.trans (ez39.trans c2)) hf16
    · refine lv_iconst (v := (-1)) hx hb dX11_sentence_45 (by decide) ?_
      refine lv_aload_n hx hb dX11_sentence_46 rfl (lv_at hl 0 rfl) ?_
      refine va_get (D := (dC, dI)) (ci := 10) (v := .ref (A 1)) (C := RX11) (T := TX11) (N := 19) hx hb hts ii_X11_sentence_X11 hown hK hP 0 (xw_is (r := 0) (by omega) (xc_fix (r := 0) (by omega))) rfl 0 (by decide) (hts _ mm_X11_sentence_1) (fun _ hh => hh) rfl dX11_sentence_47 ?_
      refine va_getN (host := "OffTheLead") (D := (dC, dI)) (ci := 9) (v := .int (st34 1 14)) (C := RX8) (T := TX8) (N := 15) hx hb hts ii_X11_sentence_X8 hown hK hP 1 (xw_is (r := 1) (by omega) (xc_fix (r := 1) (by omega))) rfl 14 (by decide) (va_Nw.use rfl (nf_X11_120 hEv)) (fun _ hh => hh) rfl dX11_sentence_50 ?_
      obtain ⟨z40, ez40⟩ : ∃ y : Int32, st34 1 14 = y := ⟨_, rfl⟩
      refine zz_top (v := z40) (by exact ez40) ?_
      refine lv_isub hx hb dX11_sentence_53 ?_
      refine lv_topi (fun z41 ez41 => ?_)
      clear ez41
      exact W.iret (v := z41) hx hb hr (fun t ht hW => ⟨⟨z41, (st34, sl35, so14), rfl, ⟨hG, hL, hO, ⟨by show st34 1 1 = 0; rw [hf37], hsa⟩⟩, xB.of ht hP⟩, hS.F ht⟩) hS.2.2 dX11_sentence_54
set_option maxHeartbeats 4000000 in
set_option maxRecDepth 100000 in
theorem x_X11_said (l : Launch) (dC : Nat → ClassId) (dI : Nat → Nat → Nat) (ad : Nat → Nat) (E : EP) (hEE : EC ad E) (A : Nat → Nat) (C : Nat → ClassId) (nb sz : Nat) (hN : XN A) (st : Nat → Nat → Int32) (sl : Nat → Nat → Int64) (so : Nat → XR) (va : Int32) (hI : XI st) (hOI : OI ad so) (hSA : SKall ad st so) : Met l yX11_said wsX11_said ({ frames := 6, cells := 0, slots := 0, locals := 139 }) (va_Pc [.ref (A 0), .int va] (xPre E dC dI A C nb sz st sl so)) (va_Qi (fun (r : Int32) (x : XT) => x = (st, sl, so) ∧ (True)) (xB dC dI A C nb) (XA A sz)) 0 0 (XA A sz) := by
  refine Met.ofW (cc := cX11_said) (maxL := 4) (ret := (some .int)) (by decide) rfl ?_
  intro p e s m args below meth c s₁ B hml hv
  obtain ⟨rfl, hsz, hP, hK, hE⟩ := hv
  have hx := B.exec
  have hb := B.bytes
  have hr := B.returns
  have hts := atoms_spec (ws := wsX11_said) B.pre
  have hown : s.vm.findClass RX11 = some m.cls := findClass_of_methodNamed B.named
  subst hsz
  have hEv := hEE.1 _ _ _ hE
  have hS : va_S (XA A s.heap.size) s.heap s.heap [] := va_S.rf
  have hG : XG [1, 2, 3, 4, 5, 6, 7, 8, 9, 10, 11, 12, 13, 14, 15] st st := XG.rf hI
  have hl := lv_entry ([.ref (A 0), .int va]) (n := 4) (Nat.le_of_ble_eq_true rfl)
  rw [lg_entry_eq]
  generalize (lg_sl ([.ref (A 0), .int va]) ++ List.replicate (4 - (lg_sl ([.ref (A 0), .int va])).length) Slot.unset).toArray = ls at hl ⊢
  have hl : lv_has ls 4 [(0, .ref (A 0)), (1, .int va)] := hl
  refine lv_aload_n hx hb dX11_said_0 rfl (lv_at hl 0 rfl) ?_
  refine va_get (D := (dC, dI)) (ci := 10) (v := .ref (A (20 + 4 * 0))) (C := RX11) (T := TX11) (N := 19) hx hb hts ii_X11_said_X11 hown hK hP 0 (xw_is (r := 0) (by omega) (xc_fix (r := 0) (by omega))) rfl 5 (by decide) (hts _ mm_X11_said_1) (fun _ hh => hh) rfl dX11_said_1 ?_
  refine va_getN (host := "OffTheLead") (D := (dC, dI)) (ci := 8) (v := .int (st (20 + 4 * 0) 4)) (C := RX7) (T := TX7) (N := 5) hx hb hts ii_X11_said_X7 hown hK hP (20 + 4 * 0) (xw_is (r := (20 + 4 * 0)) (by omega) (xc_sn (q := 0) (o := 0) (by omega) (by omega))) rfl 4 (by decide) (va_Nw.use rfl (nf_X11_364 hEv)) (fun _ hh => hh) rfl dX11_said_4 ?_
  obtain ⟨z1, ez1⟩ : ∃ y : Int32, st (20 + 4 * 0) 4 = y := ⟨_, rfl⟩
  refine zz_top (v := z1) (by exact ez1) ?_
  refine lv_if_eq (tgt := 15) hx hb dX11_said_7 (by decide) (fun c1 => ?_) (fun c1 => ?_)
  · refine lv_iconst (v := (-1)) hx hb dX11_said_15 (by decide) ?_
    exact W.iret (v := (-1)) hx hb hr (fun t ht hW => ⟨⟨(-1), (st, sl, so), rfl, ⟨rfl, trivial⟩, xB.of ht hP⟩, hS.F ht⟩) hS.2.2 dX11_said_16
  · refine lv_iload_n hx hb dX11_said_10 rfl (lv_at hl 1 rfl) ?_
    refine lv_iconst (v := (-1)) hx hb dX11_said_11 (by decide) ?_
    refine lv_icmp_ge (tgt := 17) hx hb dX11_said_12 (by decide) (fun c2 => ?_) (fun c2 => ?_)
    · refine lv_iconst (v := 0) hx hb dX11_said_17 (by decide) ?_
      refine lv_istore_n (lv' := [(2, .int 0), (0, .ref (A 0)), (1, .int va)]) hx hb dX11_said_18 rfl hl (by decide) rfl (fun ls hl => ?_)
      refine lv_iconst (v := 0) hx hb dX11_said_19 (by decide) ?_
      refine lv_istore_n (lv' := [(3, .int 0), (2, .int 0), (0, .ref (A 0)), (1, .int va)]) hx hb dX11_said_20 rfl hl (by decide) rfl (fun ls hl => ?_)
      refine zz_wf (fun n stk H locs ls => ∃ k2 : Nat, ∃ z3 : Int32, n = 9 - k2 ∧ 0 ≤ k2 ∧ k2 < 9 ∧ va_P (dC, dI) vwCl (xw A C nb st sl so) H ∧ va_S (XA A s.heap.size) s.heap H locs ∧ lv_has ls 4 [(3, .int (nI k2)), (2, .int z3), (0, .ref (A 0)), (1, .int va)] ∧ stk = []) ?_ (9 - 0) _ _ _ _ ⟨0, 0, rfl, by omega, by omega, hP, hS, lv_sub hl [0, 1, 2, 3] rfl, rfl⟩
      rintro nn stk H locs ls ⟨k2, z3, hm5, hv4_0, hv5_1, hP, hS, hl, rfl⟩ ih6
      refine lv_iload_n hx hb dX11_said_21 rfl (lv_at hl 0 rfl) ?_
      refine lv_aload_n hx hb dX11_said_22 rfl (lv_at hl 2 rfl) ?_
      refine va_get (D := (dC, dI)) (ci := 10) (v := .ref (A (36 + 20 * 0))) (C := RX11) (T := TX11) (N := 19) hx hb hts ii_X11_said_X11 hown hK hP 0 (xw_is (r := 0) (by omega) (xc_fix (r := 0) (by omega))) rfl 1 (by decide) (hts _ mm_X11_said_2) (fun _ hh => hh) rfl dX11_said_23 ?_
      refine va_getN (host := "OffTheLead") (D := (dC, dI)) (ci := 5) (v := .int (st (36 + 20 * 0) 6)) (C := RX4) (T := TX4) (N := 12) hx hb hts ii_X11_said_X4 hown hK hP (36 + 20 * 0) (xw_is (r := (36 + 20 * 0)) (by omega) (xc_pk (i := 0) (o := 0) (by omega) (by omega))) rfl 6 (by decide) (va_Nw.use rfl (nf_X11_367 hEv)) (fun _ hh => hh) rfl dX11_said_26 ?_
      obtain ⟨n7, hn7, en7⟩ := hG.1.at (r := (36 + 20 * 0)) (k := 6) (b := 9) ((xrg_pk (i := 0) (o := 0) (k := 6) (by omega)).trans (by first | rfl | decide)) (by decide)
      refine zz_top (v := nI n7) (by exact en7) ?_
      refine lv_icmp_ge (tgt := 63) hx hb dX11_said_29 (by decide) (fun c3 => ?_) (fun c3 => ?_)
      · have c3 : n7 ≤ k2 := (nI_leI (a := n7) (b := k2) (by omega) (by omega)).mp c3
        refine lv_iload_n hx hb dX11_said_63 rfl (lv_at hl 3 rfl) ?_
        refine lv_iconst (v := (-1)) hx hb dX11_said_64 (by decide) ?_
        refine lv_icmp_ne (tgt := 72) hx hb dX11_said_65 (by decide) (fun c4 => ?_) (fun c4 => ?_)
        · refine lv_iconst (v := (-1)) hx hb dX11_said_72 (by decide) ?_
          exact W.iret (v := (-1)) hx hb hr (fun t ht hW => ⟨⟨(-1), (st, sl, so), rfl, ⟨rfl, trivial⟩, xB.of ht hP⟩, hS.F ht⟩) hS.2.2 dX11_said_73
        · refine lv_iload_n hx hb dX11_said_68 rfl (lv_at hl 1 rfl) ?_
          refine lv_goto (tgt := 73) hx hb dX11_said_69 (by decide) ?_
          exact W.iret (v := z3) hx hb hr (fun t ht hW => ⟨⟨z3, (st, sl, so), rfl, ⟨rfl, trivial⟩, xB.of ht hP⟩, hS.F ht⟩) hS.2.2 dX11_said_73
      · have c3 : ¬ n7 ≤ k2 := fun hh => c3 ((nI_leI (a := n7) (b := k2) (by omega) (by omega)).mpr hh)
        refine lv_aload_n hx hb dX11_said_32 rfl (lv_at hl 2 rfl) ?_
        refine va_get (D := (dC, dI)) (ci := 10) (v := .ref (A (20 + 4 * 0))) (C := RX11) (T := TX11) (N := 19) hx hb hts ii_X11_said_X11 hown hK hP 0 (xw_is (r := 0) (by omega) (xc_fix (r := 0) (by omega))) rfl 5 (by decide) (hts _ mm_X11_said_1) (fun _ hh => hh) rfl dX11_said_33 ?_
        refine lv_aload_n hx hb dX11_said_36 rfl (lv_at hl 2 rfl) ?_
        refine va_get (D := (dC, dI)) (ci := 10) (v := .ref (A (36 + 20 * 0))) (C := RX11) (T := TX11) (N := 19) hx hb hts ii_X11_said_X11 hown hK hP 0 (xw_is (r := 0) (by omega) (xc_fix (r := 0) (by omega))) rfl 1 (by decide) (hts _ mm_X11_said_2) (fun _ hh => hh) rfl dX11_said_37 ?_
        refine lv_iload_n hx hb dX11_said_40 rfl (lv_at hl 0 rfl) ?_
        refine va_calli (va_runV (As := [.ref (A (36 + 20 * 0)), .int (nI k2)]) (rest := []) ⟨hx, hb, hml, hown, hts⟩ (x_X7_fits l dC dI ad E hEE A C nb _ hN st sl so k2 (by omega) hG.1 hOI (hSA 0 (by omega) (by omega))) (cwV 2 hts gX11_said_X7_fits rfl rfl rfl (by decide +kernel) ⟨Nat.le_of_ble_eq_true rfl, Nat.le_of_ble_eq_true rfl⟩) ⟨fun a U g mk q => ⟨q.1, xPre.blind hEE q.2⟩, va_recv hK hP (ci := 8) (q0 := (20 + 4 * 0)) rfl (xw_is (r := (20 + 4 * 0)) (by omega) (xc_sn (q := 0) (o := 0) (by omega) (by omega))), fun U hU hW => ⟨rfl, xPre.of hEE hP hK hE hS hU hW⟩⟩ rfl rfl hl.1 rfl (lv_room (Nat.le_of_ble_eq_true rfl)) dX11_said_41 ⟨Nat.le_of_ble_eq_true rfl, Nat.le_of_ble_eq_true rfl⟩) hS (fun q _ h => XA.le hS.1 q h) (XA.le hS.1) (fun r8 x t H locs ht hvm hw hB _ _ hS => ?_)
        have hP := xB.at ht hB
        clear hB ht hvm
        obtain ⟨rfl, hw⟩ := hw
        have hP : va_P (dC, dI) vwCl (xw A C nb st sl so) _ := hP
        rcases hw with rfl | rfl
        · refine lv_if_eq (tgt := 57) hx hb dX11_said_44 (by decide) (fun cc => absurd cc (by decide)) (fun _ => ?_)
          refine lv_iload_n hx hb dX11_said_47 rfl (lv_at hl 1 rfl) ?_
          refine lv_iload_n hx hb dX11_said_48 rfl (lv_at hl 3 rfl) ?_
          refine lv_icmp_ne (tgt := 54) hx hb dX11_said_49 (by decide) (fun c6 => ?_) (fun c6 => ?_)
          · obtain ⟨z9, ez9⟩ : ∃ y : Int32, y = z3 + 1 := ⟨_, rfl⟩
            refine lv_iinc (v := z9) (lv' := [(2, .int z9), (3, .int (nI k2)), (0, .ref (A 0)), (1, .int va)]) hx hb dX11_said_54 hl (k := 1) rfl (by rw [ez9]; rfl) (by decide) rfl (fun ls hl => ?_)
            refine lv_iinc (v := (nI (k2 + 1))) (lv' := [(3, .int (nI (k2 + 1))), (2, .int z9), (0, .ref (A 0)), (1, .int va)]) hx hb dX11_said_57 hl (k := 1) rfl (nI_add k2 1) (by decide) rfl (fun ls hl => ?_)
            refine lv_goto (tgt := 21) hx hb dX11_said_60 (by decide) ?_
            exact ih6 (9 - (k2 + 1)) _ _ _ _ (by omega) ⟨(k2 + 1), z9, rfl, by omega, by omega, hP, hS, lv_sub hl [0, 1, 2, 3] rfl, rfl⟩
          · refine lv_iload_n hx hb dX11_said_52 rfl (lv_at hl 0 rfl) ?_
            exact W.iret (v := (nI k2)) hx hb hr (fun t ht hW => ⟨⟨(nI k2), (st, sl, so), rfl, ⟨rfl, trivial⟩, xB.of ht hP⟩, hS.F ht⟩) hS.2.2 dX11_said_53
        · refine lv_if_eq (tgt := 57) hx hb dX11_said_44 (by decide) (fun _ => ?_) (fun cc => absurd (by decide) cc)
          refine lv_iinc (v := (nI (k2 + 1))) (lv' := [(3, .int (nI (k2 + 1))), (2, .int z3), (0, .ref (A 0)), (1, .int va)]) hx hb dX11_said_57 hl (k := 0) rfl (nI_add k2 1) (by decide) rfl (fun ls hl => ?_)
          refine lv_goto (tgt := 21) hx hb dX11_said_60 (by decide) ?_
          exact ih6 (9 - (k2 + 1)) _ _ _ _ (by omega) ⟨(k2 + 1), z3, rfl, by omega, by omega, hP, hS, lv_sub hl [0, 1, 2, 3] rfl, rfl⟩
    · refine lv_iconst (v := (-1)) hx hb dX11_said_15 (by decide) ?_
      exact W.iret (v := (-1)) hx hb hr (fun t ht hW => ⟨⟨(-1), (st, sl, so), rfl, ⟨rfl, trivial⟩, xB.of ht hP⟩, hS.F ht⟩) hS.2.2 dX11_said_16
set_option maxHeartbeats 4000000 in
set_option maxRecDepth 100000 in
theorem x_X11_image (l : Launch) (dC : Nat → ClassId) (dI : Nat → Nat → Nat) (ad : Nat → Nat) (E : EP) (hEE : EC ad E) (A : Nat → Nat) (C : Nat → ClassId) (nb sz : Nat) (hN : XN A) (st : Nat → Nat → Int32) (sl : Nat → Nat → Int64) (so : Nat → XR) (va : Int32) (hI : XI st) (hOI : OI ad so) (hSA : SKall ad st so) : Met l yX11_image wsX11_image ({ frames := 2, cells := 0, slots := 0, locals := 43 }) (va_Pc [.ref (A 0), .int va] (xPre E dC dI A C nb sz st sl so)) (va_Qi (fun (r : Int32) (x : XT) => XG [1, 13, 15, 12, 14] st x.1 ∧ OG ad [3] so x.2.2 ∧ ((∃ n : Nat, r = 1 ∧ va = nI n ∧ n < 2 ∧ x.1 15 n = 1 ∧ (∀ j, ¬ j = n → x.1 15 j = st 15 j) ∧ SKall ad x.1 x.2.2 ∧ CQ (11 + n) 0 st sl x.1 x.2.1) ∨ (r = 0 ∧ (¬ ∃ n, n < 2 ∧ va = nI n) ∧ (∀ j, x.1 15 j = st 15 j) ∧ SKall ad x.1 x.2.2 ∧ NI st sl x.1 x.2.1))) (xB dC dI A C nb) (XA A sz)) 0 0 (XA A sz) := by
  refine Met.ofW (cc := cX11_image) (maxL := 2) (ret := (some .boolean)) (by decide) rfl ?_
  intro p e s m args below meth c s₁ B hml hv
  obtain ⟨rfl, hsz, hP, hK, hE⟩ := hv
  have hx := B.exec
  have hb := B.bytes
  have hr := B.returns
  have hts := atoms_spec (ws := wsX11_image) B.pre
  have hown : s.vm.findClass RX11 = some m.cls := findClass_of_methodNamed B.named
  subst hsz
  have hEv := hEE.1 _ _ _ hE
  have hS : va_S (XA A s.heap.size) s.heap s.heap [] := va_S.rf
  have hG : XG [1, 13, 15, 12, 14] st st := XG.rf hI
  have hO : OG ad [3] so so := OG.rf hOI
  have hl := lv_entry ([.ref (A 0), .int va]) (n := 2) (Nat.le_of_ble_eq_true rfl)
  rw [lg_entry_eq]
  generalize (lg_sl ([.ref (A 0), .int va]) ++ List.replicate (2 - (lg_sl ([.ref (A 0), .int va])).length) Slot.unset).toArray = ls at hl ⊢
  have hl : lv_has ls 2 [(0, .ref (A 0)), (1, .int va)] := hl
  have hsa : SKall ad st so := hSA
  refine lv_iload_n hx hb dX11_image_0 rfl (lv_at hl 1 rfl) ?_
  refine lv_if_lt (tgt := 9) hx hb dX11_image_1 (by decide) (fun c1 => ?_) (fun c1 => ?_)
  · refine lv_iconst (v := 0) hx hb dX11_image_9 (by decide) ?_
    exact W.zret (v := 0) hx hb hr rfl (fun t ht hW => ⟨⟨0, (st, sl, so), rfl, ⟨hG, hO, Or.inr ⟨rfl, nolow c1, fun jj => rfl, hsa, NI.rf⟩⟩, xB.of ht hP⟩, hS.F ht⟩) hS.2.2 dX11_image_10
  · obtain ⟨jn, hjn, rfl⟩ := nI_of c1
    refine lv_iload_n hx hb dX11_image_4 rfl (lv_at hl 1 rfl) ?_
    refine lv_iconst (v := 2) hx hb dX11_image_5 (by decide) ?_
    refine lv_icmp_lt (tgt := 11) hx hb dX11_image_6 (by decide) (fun c2 => ?_) (fun c2 => ?_)
    · have c2 : jn < 2 := (nI_ltI (a := jn) (b := 2) (by omega) (by omega)).mp c2
      rcases (show jn = 0 ∨ jn = 1 by omega) with cg | cg
      · have hl : lv_has ls 2 [(0, .ref (A 0)), (1, .int 0)] := by rw [cg] at hl; exact hl
        refine lv_aload_n hx hb dX11_image_11 rfl (lv_at hl 0 rfl) ?_
        refine va_get (D := (dC, dI)) (ci := 10) (v := .ref (A 13)) (C := RX11) (T := TX11) (N := 19) hx hb hts ii_X11_image_X11 hown hK hP 0 (xw_is (r := 0) (by omega) (xc_fix (r := 0) (by omega))) rfl 9 (by decide) (hts _ mm_X11_image_1) (fun _ hh => hh) rfl dX11_image_12 ?_
        refine lv_iload_n hx hb dX11_image_15 rfl (lv_at hl 1 rfl) ?_
        refine va_aldq hx hb hK hP 13 13 (xw_is (r := 13) (by omega) (xc_fix (r := 13) (by omega))) (xt_is (r := 13) (by omega) rfl) (i := 0) (zz_in (by decide)) dX11_image_16 ?_
        refine zz_topq (r := some (A (36 + 20 * 11))) (by exact congrArg some (congrArg A (by decide))) ?_
        refine lv_aload_n hx hb dX11_image_17 rfl (lv_at hl 0 rfl) ?_
        refine va_get (D := (dC, dI)) (ci := 10) (v := .ref (A (36 + 20 * 0))) (C := RX11) (T := TX11) (N := 19) hx hb hts ii_X11_image_X11 hown hK hP 0 (xw_is (r := 0) (by omega) (xc_fix (r := 0) (by omega))) rfl 1 (by decide) (hts _ mm_X11_image_2) (fun _ hh => hh) rfl dX11_image_18 ?_
        refine va_callv (va_runV (As := [.ref (A (36 + 20 * 0))]) (rest := []) ⟨hx, hb, hml, hown, hts⟩ (x_X4_copyFrom l dC dI ad E hEE A C nb _ hN st sl so 11 0 (by omega) (by omega) hG.1 (by omega)) (cwV 1 hts gX11_image_X4_copyFrom rfl rfl rfl (by decide +kernel) ⟨Nat.le_of_ble_eq_true rfl, Nat.le_of_ble_eq_true rfl⟩) ⟨fun a U g mk q => ⟨q.1, xPre.blind hEE q.2⟩, va_recv hK hP (ci := 5) (q0 := (36 + 20 * 11)) rfl (xw_is (r := (36 + 20 * 11)) (by omega) (xc_pk (i := 11) (o := 0) (by omega) (by omega))), fun U hU hW => ⟨rfl, xPre.of hEE hP hK hE hS hU hW⟩⟩ rfl rfl hl.1 rfl (lv_room (Nat.le_of_ble_eq_true rfl)) dX11_image_21 ⟨Nat.le_of_ble_eq_true rfl, Nat.le_of_ble_eq_true rfl⟩) hS (fun q _ h => XA.le hS.1 q h) (XA.le hS.1) (fun x t H locs ht hvm hw hB _ _ hS => ?_)
        have hP := xB.at ht hB
        clear hB ht hvm
        obtain ⟨st2, sl3, so4⟩ := x
        obtain ⟨hGst2, hOst2, hw⟩ := hw
        dsimp only at hGst2 hOst2 hw
        replace hOst2 := hOst2.symm
        subst hOst2
        have hP : va_P (dC, dI) vwCl (xw A C nb st2 sl3 so) _ := hP
        have hG : XG [1, 13, 15, 12, 14] st st2 := hG.tr hGst2 (by decide)
        have hf5 := hw
        have hsa : SKall ad st2 so := SKall.mgs hsa hGst2 (by decide) (by decide)
        have hcq9 : CQ 11 0 st sl st2 sl3 := hf5
        refine lv_aload_n hx hb dX11_image_24 rfl (lv_at hl 0 rfl) ?_
        refine va_get (D := (dC, dI)) (ci := 10) (v := .ref (A 14)) (C := RX11) (T := TX11) (N := 19) hx hb hts ii_X11_image_X11 hown hK hP 0 (xw_is (r := 0) (by omega) (xc_fix (r := 0) (by omega))) rfl 10 (by decide) (hts _ mm_X11_image_3) (fun _ hh => hh) rfl dX11_image_25 ?_
        refine lv_iload_n hx hb dX11_image_28 rfl (lv_at hl 1 rfl) ?_
        refine va_aldq hx hb hK hP 14 14 (xw_is (r := 14) (by omega) (xc_fix (r := 14) (by omega))) (xt_is (r := 14) (by omega) rfl) (i := 0) (zz_in (by decide)) dX11_image_29 ?_
        refine zz_topq (r := some (A (20 + 4 * 2))) (by exact congrArg some (congrArg A (by decide))) ?_
        refine lv_aload_n hx hb dX11_image_30 rfl (lv_at hl 0 rfl) ?_
        refine va_get (D := (dC, dI)) (ci := 10) (v := .ref (A (20 + 4 * 0))) (C := RX11) (T := TX11) (N := 19) hx hb hts ii_X11_image_X11 hown hK hP 0 (xw_is (r := 0) (by omega) (xc_fix (r := 0) (by omega))) rfl 5 (by decide) (hts _ mm_X11_image_4) (fun _ hh => hh) rfl dX11_image_31 ?_
        refine va_callv (va_runV (As := [.ref (A (20 + 4 * 0))]) (rest := []) ⟨hx, hb, hml, hown, hts⟩ (x_copyS20 l dC dI ad E hEE A C nb _ hN st2 sl3 so  hG.1 hO.1) (cwV 1 hts gX11_image_X7_copyFrom rfl rfl rfl (by decide +kernel) ⟨Nat.le_of_ble_eq_true rfl, Nat.le_of_ble_eq_true rfl⟩) ⟨fun a U g mk q => ⟨q.1, xPre.blind hEE q.2⟩, va_recv hK hP (ci := 8) (q0 := (20 + 4 * 2)) rfl (xw_is (r := (20 + 4 * 2)) (by omega) (xc_sn (q := 2) (o := 0) (by omega) (by omega))), fun U hU hW => ⟨rfl, xPre.of hEE hP hK hE hS hU hW⟩⟩ rfl rfl hl.1 rfl (lv_room (Nat.le_of_ble_eq_true rfl)) dX11_image_34 ⟨Nat.le_of_ble_eq_true rfl, Nat.le_of_ble_eq_true rfl⟩) hS (fun q _ h => XA.le hS.1 q h) (XA.le hS.1) (fun x t H locs ht hvm hw hB _ _ hS => ?_)
        have hP := xB.at ht hB
        clear hB ht hvm
        obtain ⟨st7, sl8, so9⟩ := x
        obtain ⟨hGst7, hLGst7, hOst7, hw⟩ := hw
        dsimp only at hGst7 hLGst7 hOst7 hw
        have hO : OG ad [3] so so9 := hO.tr hOst7 (by decide)
        have hP : va_P (dC, dI) vwCl (xw A C nb st7 sl8 so9) _ := hP
        have hG : XG [1, 13, 15, 12, 14] st st7 := hG.tr hGst7 (by decide)
        obtain ⟨hf10, hf11⟩ := hw
        have hsa : SKall ad st7 so9 := fun q9 h8 h9 => if e9 : q9 = 2 then by subst e9; exact hf10 (hsa 0 (by omega) (by omega)) else hf11 q9 h8 e9 (hsa q9 h8 h9)
        have hcq9 := CQ.mg hcq9 hGst7 (by decide) hLGst7
        refine lv_aload_n hx hb dX11_image_37 rfl (lv_at hl 0 rfl) ?_
        refine va_get (D := (dC, dI)) (ci := 10) (v := .ref (A 15)) (C := RX11) (T := TX11) (N := 19) hx hb hts ii_X11_image_X11 hown hK hP 0 (xw_is (r := 0) (by omega) (xc_fix (r := 0) (by omega))) rfl 11 (by decide) (hts _ mm_X11_image_5) (fun _ hh => hh) rfl dX11_image_38 ?_
        refine lv_iload_n hx hb dX11_image_41 rfl (lv_at hl 1 rfl) ?_
        refine lv_iconst (v := 1) hx hb dX11_image_42 (by decide) ?_
        refine va_zast hx hb hK hP (xD hN _ _ _ _ _ _) hS 15 15 (xw_is (r := 15) (by omega) (xc_fix (r := 15) (by omega))) (xt_is (r := 15) (by omega) rfl) (i := 0) (zz_in (by decide)) dX11_image_43 (fun H locs hP _ hS => ?_)
        have hP : va_P (dC, dI) vwCl (xw A C nb (up2 st7 15 0 1) sl8 so9) H := by rw [← xset (r := 15) (k := 0) (v := 1) (xc_fix (r := 15) (by omega))]; exact hP
        obtain ⟨st12, est12⟩ : ∃ y, y = up2 st7 15 0 1 := ⟨_, rfl⟩
        have hG : XG [1, 13, 15, 12, 14] st st12 := by rw [est12]; exact hG.up (xz (r := 15) (k := 0) (by decide : xrg 15 0 = 0)) (xpn (c := 2) (by decide : xcl 15 0 = 2) (by decide))
        rw [← est12] at hP
        have hsa : SKall ad st12 so9 := SKall.eqr hsa (fun q9 h9 => ⟨by rw [est12, up2_ne (r := 15) (k := 0) (a := 20 + 4 * q9) (j := 3) _ _ (by omega)], fun i9 => by rw [est12, up2_ne (r := 15) (k := 0) (a := 20 + 4 * q9 + 3) (j := i9) _ _ (by omega)]⟩)
        refine lv_iconst (v := 1) hx hb dX11_image_44 (by decide) ?_
        exact W.zret (v := 1) hx hb hr rfl (fun t ht hW => ⟨⟨1, (st12, sl8, so9), rfl, ⟨hG, hO, Or.inl ⟨0, rfl, by rw [cg], by omega, by show st12 15 0 = 1; rw [est12, up2_same], fun jj hk => by show st12 15 jj = st 15 jj; rw [est12, up2_ne (r := 15) (k := 0) (a := 15) (j := jj) _ _ (by omega), hGst7.2 15 jj (by rw [(by unfold xcl; rfl : xcl 15 jj = 2)]; decide), hGst2.2 15 jj (by rw [(by unfold xcl; rfl : xcl 15 jj = 2)]; decide)], hsa, CQ.up9 (n := 0) (by rw [est12]; exact CQ.up hcq9 (fun q9 a9 h9 => by omega)) rfl⟩⟩, xB.of ht hP⟩, hS.F ht⟩) hS.2.2 dX11_image_45
      · have hl : lv_has ls 2 [(0, .ref (A 0)), (1, .int 1)] := by rw [cg] at hl; exact hl
        refine lv_aload_n hx hb dX11_image_11 rfl (lv_at hl 0 rfl) ?_
        refine va_get (D := (dC, dI)) (ci := 10) (v := .ref (A 13)) (C := RX11) (T := TX11) (N := 19) hx hb hts ii_X11_image_X11 hown hK hP 0 (xw_is (r := 0) (by omega) (xc_fix (r := 0) (by omega))) rfl 9 (by decide) (hts _ mm_X11_image_1) (fun _ hh => hh) rfl dX11_image_12 ?_
        refine lv_iload_n hx hb dX11_image_15 rfl (lv_at hl 1 rfl) ?_
        refine va_aldq hx hb hK hP 13 13 (xw_is (r := 13) (by omega) (xc_fix (r := 13) (by omega))) (xt_is (r := 13) (by omega) rfl) (i := 1) (zz_in (by decide)) dX11_image_16 ?_
        refine zz_topq (r := some (A (36 + 20 * 12))) (by exact congrArg some (congrArg A (by decide))) ?_
        refine lv_aload_n hx hb dX11_image_17 rfl (lv_at hl 0 rfl) ?_
        refine va_get (D := (dC, dI)) (ci := 10) (v := .ref (A (36 + 20 * 0))) (C := RX11) (T := TX11) (N := 19) hx hb hts ii_X11_image_X11 hown hK hP 0 (xw_is (r := 0) (by omega) (xc_fix (r := 0) (by omega))) rfl 1 (by decide) (hts _ mm_X11_image_2) (fun _ hh => hh) rfl dX11_image_18 ?_
        refine va_callv (va_runV (As := [.ref (A (36 + 20 * 0))]) (rest := []) ⟨hx, hb, hml, hown, hts⟩ (x_X4_copyFrom l dC dI ad E hEE A C nb _ hN st sl so 12 0 (by omega) (by omega) hG.1 (by omega)) (cwV 1 hts gX11_image_X4_copyFrom rfl rfl rfl (by decide +kernel) ⟨Nat.le_of_ble_eq_true rfl, Nat.le_of_ble_eq_true rfl⟩) ⟨fun a U g mk q => ⟨q.1, xPre.blind hEE q.2⟩, va_recv hK hP (ci := 5) (q0 := (36 + 20 * 12)) rfl (xw_is (r := (36 + 20 * 12)) (by omega) (xc_pk (i := 12) (o := 0) (by omega) (by omega))), fun U hU hW => ⟨rfl, xPre.of hEE hP hK hE hS hU hW⟩⟩ rfl rfl hl.1 rfl (lv_room (Nat.le_of_ble_eq_true rfl)) dX11_image_21 ⟨Nat.le_of_ble_eq_true rfl, Nat.le_of_ble_eq_true rfl⟩) hS (fun q _ h => XA.le hS.1 q h) (XA.le hS.1) (fun x t H locs ht hvm hw hB _ _ hS => ?_)
        have hP := xB.at ht hB
        clear hB ht hvm
        obtain ⟨st14, sl15, so16⟩ := x
        obtain ⟨hGst14, hOst14, hw⟩ := hw
        dsimp only at hGst14 hOst14 hw
        replace hOst14 := hOst14.symm
        subst hOst14
        have hP : va_P (dC, dI) vwCl (xw A C nb st14 sl15 so) _ := hP
        have hG : XG [1, 13, 15, 12, 14] st st14 := hG.tr hGst14 (by decide)
        have hf17 := hw
        have hsa : SKall ad st14 so := SKall.mgs hsa hGst14 (by decide) (by decide)
        have hcq9 : CQ 12 0 st sl st14 sl15 := hf17
        refine lv_aload_n hx hb dX11_image_24 rfl (lv_at hl 0 rfl) ?_
        refine va_get (D := (dC, dI)) (ci := 10) (v := .ref (A 14)) (C := RX11) (T := TX11) (N := 19) hx hb hts ii_X11_image_X11 hown hK hP 0 (xw_is (r := 0) (by omega) (xc_fix (r := 0) (by omega))) rfl 10 (by decide) (hts _ mm_X11_image_3) (fun _ hh => hh) rfl dX11_image_25 ?_
        refine lv_iload_n hx hb dX11_image_28 rfl (lv_at hl 1 rfl) ?_
        refine va_aldq hx hb hK hP 14 14 (xw_is (r := 14) (by omega) (xc_fix (r := 14) (by omega))) (xt_is (r := 14) (by omega) rfl) (i := 1) (zz_in (by decide)) dX11_image_29 ?_
        refine zz_topq (r := some (A (20 + 4 * 3))) (by exact congrArg some (congrArg A (by decide))) ?_
        refine lv_aload_n hx hb dX11_image_30 rfl (lv_at hl 0 rfl) ?_
        refine va_get (D := (dC, dI)) (ci := 10) (v := .ref (A (20 + 4 * 0))) (C := RX11) (T := TX11) (N := 19) hx hb hts ii_X11_image_X11 hown hK hP 0 (xw_is (r := 0) (by omega) (xc_fix (r := 0) (by omega))) rfl 5 (by decide) (hts _ mm_X11_image_4) (fun _ hh => hh) rfl dX11_image_31 ?_
        refine va_callv (va_runV (As := [.ref (A (20 + 4 * 0))]) (rest := []) ⟨hx, hb, hml, hown, hts⟩ (x_copyS30 l dC dI ad E hEE A C nb _ hN st14 sl15 so  hG.1 hO.1) (cwV 1 hts gX11_image_X7_copyFrom rfl rfl rfl (by decide +kernel) ⟨Nat.le_of_ble_eq_true rfl, Nat.le_of_ble_eq_true rfl⟩) ⟨fun a U g mk q => ⟨q.1, xPre.blind hEE q.2⟩, va_recv hK hP (ci := 8) (q0 := (20 + 4 * 3)) rfl (xw_is (r := (20 + 4 * 3)) (by omega) (xc_sn (q := 3) (o := 0) (by omega) (by omega))), fun U hU hW => ⟨rfl, xPre.of hEE hP hK hE hS hU hW⟩⟩ rfl rfl hl.1 rfl (lv_room (Nat.le_of_ble_eq_true rfl)) dX11_image_34 ⟨Nat.le_of_ble_eq_true rfl, Nat.le_of_ble_eq_true rfl⟩) hS (fun q _ h => XA.le hS.1 q h) (XA.le hS.1) (fun x t H locs ht hvm hw hB _ _ hS => ?_)
        have hP := xB.at ht hB
        clear hB ht hvm
        obtain ⟨st19, sl20, so21⟩ := x
        obtain ⟨hGst19, hLGst19, hOst19, hw⟩ := hw
        dsimp only at hGst19 hLGst19 hOst19 hw
        have hO : OG ad [3] so so21 := hO.tr hOst19 (by decide)
        have hP : va_P (dC, dI) vwCl (xw A C nb st19 sl20 so21) _ := hP
        have hG : XG [1, 13, 15, 12, 14] st st19 := hG.tr hGst19 (by decide)
        obtain ⟨hf22, hf23⟩ := hw
        have hsa : SKall ad st19 so21 := fun q9 h8 h9 => if e9 : q9 = 3 then by subst e9; exact hf22 (hsa 0 (by omega) (by omega)) else hf23 q9 h8 e9 (hsa q9 h8 h9)
        have hcq9 := CQ.mg hcq9 hGst19 (by decide) hLGst19
        refine lv_aload_n hx hb dX11_image_37 rfl (lv_at hl 0 rfl) ?_
        refine va_get (D := (dC, dI)) (ci := 10) (v := .ref (A 15)) (C := RX11) (T := TX11) (N := 19) hx hb hts ii_X11_image_X11 hown hK hP 0 (xw_is (r := 0) (by omega) (xc_fix (r := 0) (by omega))) rfl 11 (by decide) (hts _ mm_X11_image_5) (fun _ hh => hh) rfl dX11_image_38 ?_
        refine lv_iload_n hx hb dX11_image_41 rfl (lv_at hl 1 rfl) ?_
        refine lv_iconst (v := 1) hx hb dX11_image_42 (by decide) ?_
        refine va_zast hx hb hK hP (xD hN _ _ _ _ _ _) hS 15 15 (xw_is (r := 15) (by omega) (xc_fix (r := 15) (by omega))) (xt_is (r := 15) (by omega) rfl) (i := 1) (zz_in (by decide)) dX11_image_43 (fun H locs hP _ hS => ?_)
        have hP : va_P (dC, dI) vwCl (xw A C nb (up2 st19 15 1 1) sl20 so21) H := by rw [← xset (r := 15) (k := 1) (v := 1) (xc_fix (r := 15) (by omega))]; exact hP
        obtain ⟨st24, est24⟩ : ∃ y, y = up2 st19 15 1 1 := ⟨_, rfl⟩
        have hG : XG [1, 13, 15, 12, 14] st st24 := by rw [est24]; exact hG.up (xz (r := 15) (k := 1) (by decide : xrg 15 1 = 0)) (xpn (c := 2) (by decide : xcl 15 1 = 2) (by decide))
        rw [← est24] at hP
        have hsa : SKall ad st24 so21 := SKall.eqr hsa (fun q9 h9 => ⟨by rw [est24, up2_ne (r := 15) (k := 1) (a := 20 + 4 * q9) (j := 3) _ _ (by omega)], fun i9 => by rw [est24, up2_ne (r := 15) (k := 1) (a := 20 + 4 * q9 + 3) (j := i9) _ _ (by omega)]⟩)
        refine lv_iconst (v := 1) hx hb dX11_image_44 (by decide) ?_
        exact W.zret (v := 1) hx hb hr rfl (fun t ht hW => ⟨⟨1, (st24, sl20, so21), rfl, ⟨hG, hO, Or.inl ⟨1, rfl, by rw [cg], by omega, by show st24 15 1 = 1; rw [est24, up2_same], fun jj hk => by show st24 15 jj = st 15 jj; rw [est24, up2_ne (r := 15) (k := 1) (a := 15) (j := jj) _ _ (by omega), hGst19.2 15 jj (by rw [(by unfold xcl; rfl : xcl 15 jj = 2)]; decide), hGst14.2 15 jj (by rw [(by unfold xcl; rfl : xcl 15 jj = 2)]; decide)], hsa, CQ.up9 (n := 1) (by rw [est24]; exact CQ.up hcq9 (fun q9 a9 h9 => by omega)) rfl⟩⟩, xB.of ht hP⟩, hS.F ht⟩) hS.2.2 dX11_image_45
    · have c2 : ¬ jn < 2 := fun hh => c2 ((nI_ltI (a := jn) (b := 2) (by omega) (by omega)).mpr hh)
      refine lv_iconst (v := 0) hx hb dX11_image_9 (by decide) ?_
      exact W.zret (v := 0) hx hb hr rfl (fun t ht hW => ⟨⟨0, (st, sl, so), rfl, ⟨hG, hO, Or.inr ⟨rfl, nohigh (jn := jn) (by omega) (by omega), fun jj => rfl, hsa, NI.rf⟩⟩, xB.of ht hP⟩, hS.F ht⟩) hS.2.2 dX11_image_10
set_option maxHeartbeats 4000000 in
set_option maxRecDepth 100000 in
theorem x_X11_restore (l : Launch) (dC : Nat → ClassId) (dI : Nat → Nat → Nat) (ad : Nat → Nat) (E : EP) (hEE : EC ad E) (A : Nat → Nat) (C : Nat → ClassId) (nb sz : Nat) (hN : XN A) (st : Nat → Nat → Int32) (sl : Nat → Nat → Int64) (so : Nat → XR) (va : Int32) (hI : XI st) (hOI : OI ad so) (hSA : SKall ad st so) : Met l yX11_restore wsX11_restore ({ frames := 2, cells := 0, slots := 0, locals := 43 }) (va_Pc [.ref (A 0), .int va] (xPre E dC dI A C nb sz st sl so)) (va_Qi (fun (r : Int32) (x : XT) => XG [1, 2, 13, 12, 14] st x.1 ∧ OG ad [3] so x.2.2 ∧ ((∃ n : Nat, r = 1 ∧ va = nI n ∧ n < 2 ∧ ¬ st 15 n = 0 ∧ SKall ad x.1 x.2.2 ∧ CQ 0 (11 + n) st sl x.1 x.2.1 ∧ HC x.1 x.2.1) ∨ (r = 0 ∧ (∀ n, n < 2 → va = nI n → st 15 n = 0) ∧ SKall ad x.1 x.2.2 ∧ NI st sl x.1 x.2.1))) (xB dC dI A C nb) (XA A sz)) 0 0 (XA A sz) := by
  refine Met.ofW (cc := cX11_restore) (maxL := 2) (ret := (some .boolean)) (by decide) rfl ?_
  intro p e s m args below meth c s₁ B hml hv
  obtain ⟨rfl, hsz, hP, hK, hE⟩ := hv
  have hx := B.exec
  have hb := B.bytes
  have hr := B.returns
  have hts := atoms_spec (ws := wsX11_restore) B.pre
  have hown : s.vm.findClass RX11 = some m.cls := findClass_of_methodNamed B.named
  subst hsz
  have hEv := hEE.1 _ _ _ hE
  have hS : va_S (XA A s.heap.size) s.heap s.heap [] := va_S.rf
  have hG : XG [1, 2, 13, 12, 14] st st := XG.rf hI
  have hO : OG ad [3] so so := OG.rf hOI
  have hl := lv_entry ([.ref (A 0), .int va]) (n := 2) (Nat.le_of_ble_eq_true rfl)
  rw [lg_entry_eq]
  generalize (lg_sl ([.ref (A 0), .int va]) ++ List.replicate (2 - (lg_sl ([.ref (A 0), .int va])).length) Slot.unset).toArray = ls at hl ⊢
  have hl : lv_has ls 2 [(0, .ref (A 0)), (1, .int va)] := hl
  have hsa : SKall ad st so := hSA
  refine lv_iload_n hx hb dX11_restore_0 rfl (lv_at hl 1 rfl) ?_
  refine lv_if_lt (tgt := 18) hx hb dX11_restore_1 (by decide) (fun c1 => ?_) (fun c1 => ?_)
  · refine lv_iconst (v := 0) hx hb dX11_restore_18 (by decide) ?_
    exact W.zret (v := 0) hx hb hr rfl (fun t ht hW => ⟨⟨0, (st, sl, so), rfl, ⟨hG, hO, Or.inr ⟨rfl, fun jj hk hh => absurd ⟨jj, hk, hh⟩ (nolow c1), hsa, NI.rf⟩⟩, xB.of ht hP⟩, hS.F ht⟩) hS.2.2 dX11_restore_19
  · obtain ⟨jn, hjn, rfl⟩ := nI_of c1
    refine lv_iload_n hx hb dX11_restore_4 rfl (lv_at hl 1 rfl) ?_
    refine lv_iconst (v := 2) hx hb dX11_restore_5 (by decide) ?_
    refine lv_icmp_ge (tgt := 18) hx hb dX11_restore_6 (by decide) (fun c2 => ?_) (fun c2 => ?_)
    · have c2 : 2 ≤ jn := (nI_leI (a := 2) (b := jn) (by omega) (by omega)).mp c2
      refine lv_iconst (v := 0) hx hb dX11_restore_18 (by decide) ?_
      exact W.zret (v := 0) hx hb hr rfl (fun t ht hW => ⟨⟨0, (st, sl, so), rfl, ⟨hG, hO, Or.inr ⟨rfl, fun jj hk hh => absurd ⟨jj, hk, hh⟩ (nohigh (jn := jn) (by omega) (by omega)), hsa, NI.rf⟩⟩, xB.of ht hP⟩, hS.F ht⟩) hS.2.2 dX11_restore_19
    · have c2 : ¬ 2 ≤ jn := fun hh => c2 ((nI_leI (a := 2) (b := jn) (by omega) (by omega)).mpr hh)
      rcases (show jn = 0 ∨ jn = 1 by omega) with cg | cg
      · have hl : lv_has ls 2 [(0, .ref (A 0)), (1, .int 0)] := by rw [cg] at hl; exact hl
        refine lv_aload_n hx hb dX11_restore_9 rfl (lv_at hl 0 rfl) ?_
        refine va_get (D := (dC, dI)) (ci := 10) (v := .ref (A 15)) (C := RX11) (T := TX11) (N := 19) hx hb hts ii_X11_restore_X11 hown hK hP 0 (xw_is (r := 0) (by omega) (xc_fix (r := 0) (by omega))) rfl 11 (by decide) (hts _ mm_X11_restore_1) (fun _ hh => hh) rfl dX11_restore_10 ?_
        refine lv_iload_n hx hb dX11_restore_13 rfl (lv_at hl 1 rfl) ?_
        refine va_zald hx hb hK hP 15 15 (xw_is (r := 15) (by omega) (xc_fix (r := 15) (by omega))) (xt_is (r := 15) (by omega) rfl) (i := 0) (zz_in (by decide)) dX11_restore_14 ?_
        obtain ⟨z1, ez1⟩ : ∃ y : Int32, st 15 0 = y := ⟨_, rfl⟩
        refine zz_top (v := z1) (by exact ez1) ?_
        refine lv_if_ne (tgt := 20) hx hb dX11_restore_15 (by decide) (fun c3 => ?_) (fun c3 => ?_)
        · refine lv_aload_n hx hb dX11_restore_20 rfl (lv_at hl 0 rfl) ?_
          refine va_get (D := (dC, dI)) (ci := 10) (v := .ref (A (36 + 20 * 0))) (C := RX11) (T := TX11) (N := 19) hx hb hts ii_X11_restore_X11 hown hK hP 0 (xw_is (r := 0) (by omega) (xc_fix (r := 0) (by omega))) rfl 1 (by decide) (hts _ mm_X11_restore_2) (fun _ hh => hh) rfl dX11_restore_21 ?_
          refine lv_aload_n hx hb dX11_restore_24 rfl (lv_at hl 0 rfl) ?_
          refine va_get (D := (dC, dI)) (ci := 10) (v := .ref (A 13)) (C := RX11) (T := TX11) (N := 19) hx hb hts ii_X11_restore_X11 hown hK hP 0 (xw_is (r := 0) (by omega) (xc_fix (r := 0) (by omega))) rfl 9 (by decide) (hts _ mm_X11_restore_3) (fun _ hh => hh) rfl dX11_restore_25 ?_
          refine lv_iload_n hx hb dX11_restore_28 rfl (lv_at hl 1 rfl) ?_
          refine va_aldq hx hb hK hP 13 13 (xw_is (r := 13) (by omega) (xc_fix (r := 13) (by omega))) (xt_is (r := 13) (by omega) rfl) (i := 0) (zz_in (by decide)) dX11_restore_29 ?_
          refine zz_topq (r := some (A (36 + 20 * 11))) (by exact congrArg some (congrArg A (by decide))) ?_
          refine va_callv (va_runV (As := [.ref (A (36 + 20 * 11))]) (rest := []) ⟨hx, hb, hml, hown, hts⟩ (x_X4_copyFrom l dC dI ad E hEE A C nb _ hN st sl so 0 11 (by omega) (by omega) hG.1 (by omega)) (cwV 1 hts gX11_restore_X4_copyFrom rfl rfl rfl (by decide +kernel) ⟨Nat.le_of_ble_eq_true rfl, Nat.le_of_ble_eq_true rfl⟩) ⟨fun a U g mk q => ⟨q.1, xPre.blind hEE q.2⟩, va_recv hK hP (ci := 5) (q0 := (36 + 20 * 0)) rfl (xw_is (r := (36 + 20 * 0)) (by omega) (xc_pk (i := 0) (o := 0) (by omega) (by omega))), fun U hU hW => ⟨rfl, xPre.of hEE hP hK hE hS hU hW⟩⟩ rfl rfl hl.1 rfl (lv_room (Nat.le_of_ble_eq_true rfl)) dX11_restore_30 ⟨Nat.le_of_ble_eq_true rfl, Nat.le_of_ble_eq_true rfl⟩) hS (fun q _ h => XA.le hS.1 q h) (XA.le hS.1) (fun x t H locs ht hvm hw hB _ _ hS => ?_)
          have hP := xB.at ht hB
          clear hB ht hvm
          obtain ⟨st3, sl4, so5⟩ := x
          obtain ⟨hGst3, hOst3, hw⟩ := hw
          dsimp only at hGst3 hOst3 hw
          replace hOst3 := hOst3.symm
          subst hOst3
          have hP : va_P (dC, dI) vwCl (xw A C nb st3 sl4 so) _ := hP
          have hG : XG [1, 2, 13, 12, 14] st st3 := hG.tr hGst3 (by decide)
          have hf6 := hw
          have hsa : SKall ad st3 so := SKall.mgs hsa hGst3 (by decide) (by decide)
          have hcq9 : CQ 0 11 st sl st3 sl4 := hf6
          refine lv_aload_n hx hb dX11_restore_33 rfl (lv_at hl 0 rfl) ?_
          refine va_get (D := (dC, dI)) (ci := 10) (v := .ref (A (20 + 4 * 0))) (C := RX11) (T := TX11) (N := 19) hx hb hts ii_X11_restore_X11 hown hK hP 0 (xw_is (r := 0) (by omega) (xc_fix (r := 0) (by omega))) rfl 5 (by decide) (hts _ mm_X11_restore_4) (fun _ hh => hh) rfl dX11_restore_34 ?_
          refine lv_aload_n hx hb dX11_restore_37 rfl (lv_at hl 0 rfl) ?_
          refine va_get (D := (dC, dI)) (ci := 10) (v := .ref (A 14)) (C := RX11) (T := TX11) (N := 19) hx hb hts ii_X11_restore_X11 hown hK hP 0 (xw_is (r := 0) (by omega) (xc_fix (r := 0) (by omega))) rfl 10 (by decide) (hts _ mm_X11_restore_5) (fun _ hh => hh) rfl dX11_restore_38 ?_
          refine lv_iload_n hx hb dX11_restore_41 rfl (lv_at hl 1 rfl) ?_
          refine va_aldq hx hb hK hP 14 14 (xw_is (r := 14) (by omega) (xc_fix (r := 14) (by omega))) (xt_is (r := 14) (by omega) rfl) (i := 0) (zz_in (by decide)) dX11_restore_42 ?_
          refine zz_topq (r := some (A (20 + 4 * 2))) (by exact congrArg some (congrArg A (by decide))) ?_
          refine va_callv (va_runV (As := [.ref (A (20 + 4 * 2))]) (rest := []) ⟨hx, hb, hml, hown, hts⟩ (x_copyS02 l dC dI ad E hEE A C nb _ hN st3 sl4 so  hG.1 hO.1) (cwV 1 hts gX11_restore_X7_copyFrom rfl rfl rfl (by decide +kernel) ⟨Nat.le_of_ble_eq_true rfl, Nat.le_of_ble_eq_true rfl⟩) ⟨fun a U g mk q => ⟨q.1, xPre.blind hEE q.2⟩, va_recv hK hP (ci := 8) (q0 := (20 + 4 * 0)) rfl (xw_is (r := (20 + 4 * 0)) (by omega) (xc_sn (q := 0) (o := 0) (by omega) (by omega))), fun U hU hW => ⟨rfl, xPre.of hEE hP hK hE hS hU hW⟩⟩ rfl rfl hl.1 rfl (lv_room (Nat.le_of_ble_eq_true rfl)) dX11_restore_43 ⟨Nat.le_of_ble_eq_true rfl, Nat.le_of_ble_eq_true rfl⟩) hS (fun q _ h => XA.le hS.1 q h) (XA.le hS.1) (fun x t H locs ht hvm hw hB _ _ hS => ?_)
          have hP := xB.at ht hB
          clear hB ht hvm
          obtain ⟨st8, sl9, so10⟩ := x
          obtain ⟨hGst8, hLGst8, hOst8, hw⟩ := hw
          dsimp only at hGst8 hLGst8 hOst8 hw
          have hO : OG ad [3] so so10 := hO.tr hOst8 (by decide)
          have hP : va_P (dC, dI) vwCl (xw A C nb st8 sl9 so10) _ := hP
          have hG : XG [1, 2, 13, 12, 14] st st8 := hG.tr hGst8 (by decide)
          obtain ⟨hf11, hf12⟩ := hw
          have hsa : SKall ad st8 so10 := fun q9 h8 h9 => if e9 : q9 = 0 then by subst e9; exact hf11 (hsa 2 (by omega) (by omega)) else hf12 q9 h8 e9 (hsa q9 h8 h9)
          have hcq9 := CQ.mg hcq9 hGst8 (by decide) hLGst8
          refine lv_aload_n hx hb dX11_restore_46 rfl (lv_at hl 0 rfl) ?_
          refine va_get (D := (dC, dI)) (ci := 10) (v := .ref (A 11)) (C := RX11) (T := TX11) (N := 19) hx hb hts ii_X11_restore_X11 hown hK hP 0 (xw_is (r := 0) (by omega) (xc_fix (r := 0) (by omega))) rfl 8 (by decide) (hts _ mm_X11_restore_6) (fun _ hh => hh) rfl dX11_restore_47 ?_
          refine va_callv (va_runV (As := []) (rest := []) ⟨hx, hb, hml, hown, hts⟩ (x_X3_forget l dC dI ad E hEE A C nb _ hN st8 sl9 so10  hG.1) (cwV 0 hts gX11_restore_X3_forget rfl rfl rfl (by decide +kernel) ⟨Nat.le_of_ble_eq_true rfl, Nat.le_of_ble_eq_true rfl⟩) ⟨fun a U g mk q => ⟨q.1, xPre.blind hEE q.2⟩, va_recv hK hP (ci := 4) (q0 := 11) rfl (xw_is (r := 11) (by omega) (xc_fix (r := 11) (by omega))), fun U hU hW => ⟨rfl, xPre.of hEE hP hK hE hS hU hW⟩⟩ rfl rfl hl.1 rfl (lv_room (Nat.le_of_ble_eq_true rfl)) dX11_restore_50 ⟨Nat.le_of_ble_eq_true rfl, Nat.le_of_ble_eq_true rfl⟩) hS (fun q _ h => XA.le hS.1 q h) (XA.le hS.1) (fun x t H locs ht hvm hw hB _ _ hS => ?_)
          have hP := xB.at ht hB
          clear hB ht hvm
          obtain ⟨st14, sl15, so16⟩ := x
          obtain ⟨hGst14, hLGst14, hOst14, hw⟩ := hw
          dsimp only at hGst14 hLGst14 hOst14 hw
          replace hOst14 := hOst14.symm
          subst hOst14
          have hP : va_P (dC, dI) vwCl (xw A C nb st14 sl15 so10) _ := hP
          have hG : XG [1, 2, 13, 12, 14] st st14 := hG.tr hGst14 (by decide)
          have hf17 := hw
          have hsa : SKall ad st14 so10 := SKall.mgs hsa hGst14 (by decide) (by decide)
          have hcq9 := CQ.mg hcq9 hGst14 (by decide) hLGst14
          refine lv_iconst (v := 1) hx hb dX11_restore_53 (by decide) ?_
          exact W.zret (v := 1) hx hb hr rfl (fun t ht hW => ⟨⟨1, (st14, sl15, so10), rfl, ⟨hG, hO, Or.inl ⟨0, rfl, by rw [cg], by omega, fun h9 => c3 (by rw [← ez1]; exact h9), hsa, CQ.up8 (n := 0) hcq9 rfl, hf17⟩⟩, xB.of ht hP⟩, hS.F ht⟩) hS.2.2 dX11_restore_54
        · refine lv_iconst (v := 0) hx hb dX11_restore_18 (by decide) ?_
          exact W.zret (v := 0) hx hb hr rfl (fun t ht hW => ⟨⟨0, (st, sl, so), rfl, ⟨hG, hO, Or.inr ⟨rfl, fun jj hk hh => by obtain rfl := (nI_eq (a := jn) (b := jj) (by omega) (by omega)).mp hh; exact (show st 15 jn = 0 by rw [cg, ez1]; exact c3), hsa, NI.rf⟩⟩, xB.of ht hP⟩, hS.F ht⟩) hS.2.2 dX11_restore_19
      · have hl : lv_has ls 2 [(0, .ref (A 0)), (1, .int 1)] := by rw [cg] at hl; exact hl
        refine lv_aload_n hx hb dX11_restore_9 rfl (lv_at hl 0 rfl) ?_
        refine va_get (D := (dC, dI)) (ci := 10) (v := .ref (A 15)) (C := RX11) (T := TX11) (N := 19) hx hb hts ii_X11_restore_X11 hown hK hP 0 (xw_is (r := 0) (by omega) (xc_fix (r := 0) (by omega))) rfl 11 (by decide) (hts _ mm_X11_restore_1) (fun _ hh => hh) rfl dX11_restore_10 ?_
        refine lv_iload_n hx hb dX11_restore_13 rfl (lv_at hl 1 rfl) ?_
        refine va_zald hx hb hK hP 15 15 (xw_is (r := 15) (by omega) (xc_fix (r := 15) (by omega))) (xt_is (r := 15) (by omega) rfl) (i := 1) (zz_in (by decide)) dX11_restore_14 ?_
        obtain ⟨z18, ez18⟩ : ∃ y : Int32, st 15 1 = y := ⟨_, rfl⟩
        refine zz_top (v := z18) (by exact ez18) ?_
        refine lv_if_ne (tgt := 20) hx hb dX11_restore_15 (by decide) (fun c4 => ?_) (fun c4 => ?_)
        · refine lv_aload_n hx hb dX11_restore_20 rfl (lv_at hl 0 rfl) ?_
          refine va_get (D := (dC, dI)) (ci := 10) (v := .ref (A (36 + 20 * 0))) (C := RX11) (T := TX11) (N := 19) hx hb hts ii_X11_restore_X11 hown hK hP 0 (xw_is (r := 0) (by omega) (xc_fix (r := 0) (by omega))) rfl 1 (by decide) (hts _ mm_X11_restore_2) (fun _ hh => hh) rfl dX11_restore_21 ?_
          refine lv_aload_n hx hb dX11_restore_24 rfl (lv_at hl 0 rfl) ?_
          refine va_get (D := (dC, dI)) (ci := 10) (v := .ref (A 13)) (C := RX11) (T := TX11) (N := 19) hx hb hts ii_X11_restore_X11 hown hK hP 0 (xw_is (r := 0) (by omega) (xc_fix (r := 0) (by omega))) rfl 9 (by decide) (hts _ mm_X11_restore_3) (fun _ hh => hh) rfl dX11_restore_25 ?_
          refine lv_iload_n hx hb dX11_restore_28 rfl (lv_at hl 1 rfl) ?_
          refine va_aldq hx hb hK hP 13 13 (xw_is (r := 13) (by omega) (xc_fix (r := 13) (by omega))) (xt_is (r := 13) (by omega) rfl) (i := 1) (zz_in (by decide)) dX11_restore_29 ?_
          refine zz_topq (r := some (A (36 + 20 * 12))) (by exact congrArg some (congrArg A (by decide))) ?_
          refine va_callv (va_runV (As := [.ref (A (36 + 20 * 12))]) (rest := []) ⟨hx, hb, hml, hown, hts⟩ (x_X4_copyFrom l dC dI ad E hEE A C nb _ hN st sl so 0 12 (by omega) (by omega) hG.1 (by omega)) (cwV 1 hts gX11_restore_X4_copyFrom rfl rfl rfl (by decide +kernel) ⟨Nat.le_of_ble_eq_true rfl, Nat.le_of_ble_eq_true rfl⟩) ⟨fun a U g mk q => ⟨q.1, xPre.blind hEE q.2⟩, va_recv hK hP (ci := 5) (q0 := (36 + 20 * 0)) rfl (xw_is (r := (36 + 20 * 0)) (by omega) (xc_pk (i := 0) (o := 0) (by omega) (by omega))), fun U hU hW => ⟨rfl, xPre.of hEE hP hK hE hS hU hW⟩⟩ rfl rfl hl.1 rfl (lv_room (Nat.le_of_ble_eq_true rfl)) dX11_restore_30 ⟨Nat.le_of_ble_eq_true rfl, Nat.le_of_ble_eq_true rfl⟩) hS (fun q _ h => XA.le hS.1 q h) (XA.le hS.1) (fun x t H locs ht hvm hw hB _ _ hS => ?_)
          have hP := xB.at ht hB
          clear hB ht hvm
          obtain ⟨st20, sl21, so22⟩ := x
          obtain ⟨hGst20, hOst20, hw⟩ := hw
          dsimp only at hGst20 hOst20 hw
          replace hOst20 := hOst20.symm
          subst hOst20
          have hP : va_P (dC, dI) vwCl (xw A C nb st20 sl21 so) _ := hP
          have hG : XG [1, 2, 13, 12, 14] st st20 := hG.tr hGst20 (by decide)
          have hf23 := hw
          have hsa : SKall ad st20 so := SKall.mgs hsa hGst20 (by decide) (by decide)
          have hcq9 : CQ 0 12 st sl st20 sl21 := hf23
          refine lv_aload_n hx hb dX11_restore_33 rfl (lv_at hl 0 rfl) ?_
          refine va_get (D := (dC, dI)) (ci := 10) (v := .ref (A (20 + 4 * 0))) (C := RX11) (T := TX11) (N := 19) hx hb hts ii_X11_restore_X11 hown hK hP 0 (xw_is (r := 0) (by omega) (xc_fix (r := 0) (by omega))) rfl 5 (by decide) (hts _ mm_X11_restore_4) (fun _ hh => hh) rfl dX11_restore_34 ?_
          refine lv_aload_n hx hb dX11_restore_37 rfl (lv_at hl 0 rfl) ?_
          refine va_get (D := (dC, dI)) (ci := 10) (v := .ref (A 14)) (C := RX11) (T := TX11) (N := 19) hx hb hts ii_X11_restore_X11 hown hK hP 0 (xw_is (r := 0) (by omega) (xc_fix (r := 0) (by omega))) rfl 10 (by decide) (hts _ mm_X11_restore_5) (fun _ hh => hh) rfl dX11_restore_38 ?_
          refine lv_iload_n hx hb dX11_restore_41 rfl (lv_at hl 1 rfl) ?_
          refine va_aldq hx hb hK hP 14 14 (xw_is (r := 14) (by omega) (xc_fix (r := 14) (by omega))) (xt_is (r := 14) (by omega) rfl) (i := 1) (zz_in (by decide)) dX11_restore_42 ?_
          refine zz_topq (r := some (A (20 + 4 * 3))) (by exact congrArg some (congrArg A (by decide))) ?_
          refine va_callv (va_runV (As := [.ref (A (20 + 4 * 3))]) (rest := []) ⟨hx, hb, hml, hown, hts⟩ (x_copyS03 l dC dI ad E hEE A C nb _ hN st20 sl21 so  hG.1 hO.1) (cwV 1 hts gX11_restore_X7_copyFrom rfl rfl rfl (by decide +kernel) ⟨Nat.le_of_ble_eq_true rfl, Nat.le_of_ble_eq_true rfl⟩) ⟨fun a U g mk q => ⟨q.1, xPre.blind hEE q.2⟩, va_recv hK hP (ci := 8) (q0 := (20 + 4 * 0)) rfl (xw_is (r := (20 + 4 * 0)) (by omega) (xc_sn (q := 0) (o := 0) (by omega) (by omega))), fun U hU hW => ⟨rfl, xPre.of hEE hP hK hE hS hU hW⟩⟩ rfl rfl hl.1 rfl (lv_room (Nat.le_of_ble_eq_true rfl)) dX11_restore_43 ⟨Nat.le_of_ble_eq_true rfl, Nat.le_of_ble_eq_true rfl⟩) hS (fun q _ h => XA.le hS.1 q h) (XA.le hS.1) (fun x t H locs ht hvm hw hB _ _ hS => ?_)
          have hP := xB.at ht hB
          clear hB ht hvm
          obtain ⟨st25, sl26, so27⟩ := x
          obtain ⟨hGst25, hLGst25, hOst25, hw⟩ := hw
          dsimp only at hGst25 hLGst25 hOst25 hw
          have hO : OG ad [3] so so27 := hO.tr hOst25 (by decide)
          have hP : va_P (dC, dI) vwCl (xw A C nb st25 sl26 so27) _ := hP
          have hG : XG [1, 2, 13, 12, 14] st st25 := hG.tr hGst25 (by decide)
          obtain ⟨hf28, hf29⟩ := hw
          have hsa : SKall ad st25 so27 := fun q9 h8 h9 => if e9 : q9 = 0 then by subst e9; exact hf28 (hsa 3 (by omega) (by omega)) else hf29 q9 h8 e9 (hsa q9 h8 h9)
          have hcq9 := CQ.mg hcq9 hGst25 (by decide) hLGst25
          refine lv_aload_n hx hb dX11_restore_46 rfl (lv_at hl 0 rfl) ?_
          refine va_get (D := (dC, dI)) (ci := 10) (v := .ref (A 11)) (C := RX11) (T := TX11) (N := 19) hx hb hts ii_X11_restore_X11 hown hK hP 0 (xw_is (r := 0) (by omega) (xc_fix (r := 0) (by omega))) rfl 8 (by decide) (hts _ mm_X11_restore_6) (fun _ hh => hh) rfl dX11_restore_47 ?_
          refine va_callv (va_runV (As := []) (rest := []) ⟨hx, hb, hml, hown, hts⟩ (x_X3_forget l dC dI ad E hEE A C nb _ hN st25 sl26 so27  hG.1) (cwV 0 hts gX11_restore_X3_forget rfl rfl rfl (by decide +kernel) ⟨Nat.le_of_ble_eq_true rfl, Nat.le_of_ble_eq_true rfl⟩) ⟨fun a U g mk q => ⟨q.1, xPre.blind hEE q.2⟩, va_recv hK hP (ci := 4) (q0 := 11) rfl (xw_is (r := 11) (by omega) (xc_fix (r := 11) (by omega))), fun U hU hW => ⟨rfl, xPre.of hEE hP hK hE hS hU hW⟩⟩ rfl rfl hl.1 rfl (lv_room (Nat.le_of_ble_eq_true rfl)) dX11_restore_50 ⟨Nat.le_of_ble_eq_true rfl, Nat.le_of_ble_eq_true rfl⟩) hS (fun q _ h => XA.le hS.1 q h) (XA.le hS.1) (fun x t H locs ht hvm hw hB _ _ hS => ?_)
          have hP := xB.at ht hB
          clear hB ht hvm
          obtain ⟨st31, sl32, so33⟩ := x
          obtain ⟨hGst31, hLGst31, hOst31, hw⟩ := hw
          dsimp only at hGst31 hLGst31 hOst31 hw
          replace hOst31 := hOst31.symm
          subst hOst31
          have hP : va_P (dC, dI) vwCl (xw A C nb st31 sl32 so27) _ := hP
          have hG : XG [1, 2, 13, 12, 14] st st31 := hG.tr hGst31 (by decide)
          have hf34 := hw
          have hsa : SKall ad st31 so27 := SKall.mgs hsa hGst31 (by decide) (by decide)
          have hcq9 := CQ.mg hcq9 hGst31 (by decide) hLGst31
          refine lv_iconst (v := 1) hx hb dX11_restore_53 (by decide) ?_
          exact W.zret (v := 1) hx hb hr rfl (fun t ht hW => ⟨⟨1, (st31, sl32, so27), rfl, ⟨hG, hO, Or.inl ⟨1, rfl, by rw [cg], by omega, fun h9 => c4 (by rw [← ez18]; exact h9), hsa, CQ.up8 (n := 1) hcq9 rfl, hf34⟩⟩, xB.of ht hP⟩, hS.F ht⟩) hS.2.2 dX11_restore_54
        · refine lv_iconst (v := 0) hx hb dX11_restore_18 (by decide) ?_
          exact W.zret (v := 0) hx hb hr rfl (fun t ht hW => ⟨⟨0, (st, sl, so), rfl, ⟨hG, hO, Or.inr ⟨rfl, fun jj hk hh => by obtain rfl := (nI_eq (a := jn) (b := jj) (by omega) (by omega)).mp hh; exact (show st 15 jn = 0 by rw [cg, ez18]; exact c4), hsa, NI.rf⟩⟩, xB.of ht hP⟩, hS.F ht⟩) hS.2.2 dX11_restore_19
