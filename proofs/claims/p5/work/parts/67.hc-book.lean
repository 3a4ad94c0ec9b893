set_option maxHeartbeats 4000000 in
set_option maxRecDepth 100000 in
theorem x_X11_bookF (l : Launch) (dC : Nat → ClassId) (dI : Nat → Nat → Nat) (ad : Nat → Nat) (E : EP) (hEE : EC ad E) (A : Nat → Nat) (C : Nat → ClassId) (nb sz : Nat) (hN : XN A) (st : Nat → Nat → Int32) (sl : Nat → Nat → Int64) (so : Nat → XR) (va : Int32) (B : Nat → Nat) (g : Nat) (c : Nat → Nat) (nm : Nat → Nat → Nat) (hI : XI st) (hOI : OI ad so) (ht : st 1 1 = nI g) (hg : g < 941) (hbt : ∀ j, j < g → st 2 j = sbt (B j) ∧ B j < 256) (hRN : CN c nm st sl 0) : Met l yX11_book wsX11_book ({ frames := 10, cells := 0, slots := 0, locals := 225 }) (va_Pc [.ref (A 0), .int va] (xPre E dC dI A C nb sz st sl so)) (va_Qi (fun (r : Int32) (x : XT) => XG [2, 4, 5, 13, 14] st x.1 ∧ OG ad [4] so x.2.2 ∧ ((x.1 1 1 = 0 ∧ (va = 0 ∨ va = 1) ∧ NI st sl x.1 x.2.1 ∧ x.1 0 16 = nI (bBk B g 400 c nm 41 0 0).1) ∨ (x.1 1 1 = st 1 1 ∧ ¬ (va = 0 ∨ va = 1) ∧ NI st sl x.1 x.2.1 ∧ x.1 0 16 = st 0 16))) (xB dC dI A C nb) (XA A sz)) 0 0 (XA A sz) := by
  refine Met.ofW (cc := cX11_book) (maxL := 4) (ret := (some .int)) (by decide) rfl ?_
  intro p9 e s m9 args below meth c9 s₁ B9 hml hv
  obtain ⟨rfl, hsz, hP, hK, hE⟩ := hv
  have hx := B9.exec
  have hb := B9.bytes
  have hr := B9.returns
  have hts := atoms_spec (ws := wsX11_book) B9.pre
  have hown : s.vm.findClass RX11 = some m9.cls := findClass_of_methodNamed B9.named
  subst hsz
  have hEv := hEE.1 _ _ _ hE
  have hS : va_S (XA A s.heap.size) s.heap s.heap [] := va_S.rf
  have hG : XG [2, 4, 5, 13, 14] st st := XG.rf hI
  have hO : OG ad [4] so so := OG.rf hOI
  have hl := lv_entry ([.ref (A 0), .int va]) (n := 4) (Nat.le_of_ble_eq_true rfl)
  rw [lg_entry_eq]
  generalize (lg_sl ([.ref (A 0), .int va]) ++ List.replicate (4 - (lg_sl ([.ref (A 0), .int va])).length) Slot.unset).toArray = ls at hl ⊢
  have hl : lv_has ls 4 [(0, .ref (A 0)), (1, .int va)] := hl
  have hni : NI st sl st sl := NI.rf
  refine lv_iload_n hx hb dX11_book_0 rfl (lv_at hl 1 rfl) ?_
  refine lv_if_eq (tgt := 13) hx hb dX11_book_1 (by decide) (fun c1 => ?_) (fun c1 => ?_)
  · have hl : lv_has ls 4 [(0, .ref (A 0)), (1, .int 0)] := by rw [c1] at hl; exact hl
    refine lv_aload_n hx hb dX11_book_13 rfl (lv_at hl 0 rfl) ?_
    refine va_get (D := (dC, dI)) (ci := 10) (v := .ref (A 1)) (C := RX11) (T := TX11) (N := 19) hx hb hts ii_X11_book_X11 hown hK hP 0 (xw_is (r := 0) (by omega) (xc_fix (r := 0) (by omega))) rfl 0 (by decide) (hts _ mm_X11_book_1) (fun _ hh => hh) rfl dX11_book_14 ?_
    refine lv_sipush (v := 400) hx hb dX11_book_17 (by decide) ?_
    refine va_callv (va_runV (As := [.int 400]) (rest := []) ⟨hx, hb, hml, hown, hts⟩ (y_open400 l dC dI ad E hEE A C nb _ hN st sl so B g  hG.1 hO.1 (ht) (hg) (hbt)) (cwV 1 hts gX11_book_X8_open rfl rfl rfl (by decide +kernel) ⟨Nat.le_of_ble_eq_true rfl, Nat.le_of_ble_eq_true rfl⟩) ⟨fun a U g mk q => ⟨q.1, xPre.blind hEE q.2⟩, va_recv hK hP (ci := 9) (q0 := 1) rfl (xw_is (r := 1) (by omega) (xc_fix (r := 1) (by omega))), fun U hU hW => ⟨rfl, xPre.of hEE hP hK hE hS hU hW⟩⟩ rfl rfl hl.1 rfl (lv_room (Nat.le_of_ble_eq_true rfl)) dX11_book_20 ⟨Nat.le_of_ble_eq_true rfl, Nat.le_of_ble_eq_true rfl⟩) hS (fun q _ h => XA.le hS.1 q h) (XA.le hS.1) (fun x t H locs ht hvm hw hB _ _ hS => ?_)
    have hP := xB.at ht hB
    clear hB ht hvm
    obtain ⟨st2, sl3, so4⟩ := x
    obtain ⟨hGst2, hOst2, hw⟩ := hw
    dsimp only at hGst2 hOst2 hw
    have hO : OG ad [4] so so4 := hO.tr hOst2 (by decide)
    have hP : va_P (dC, dI) vwCl (xw A C nb st2 sl3 so4) _ := hP
    have hG : XG [2, 4, 5, 13, 14] st st2 := hG.tr hGst2 (by decide)
    obtain ⟨hf5, hf6, hf7, hf8⟩ := hw
    have hni : NI st sl st2 sl3 := hni.mg hGst2 (by decide) (by decide) (fun r9 k9 h9 => (hf8 r9 k9 h9).2)
    have hLGst2 : LGq sl sl3 := fun r9 k9 h9 => (hf8 r9 k9 h9).2
    refine lv_aload_n hx hb dX11_book_23 rfl (lv_at hl 0 rfl) ?_
    refine va_get (D := (dC, dI)) (ci := 10) (v := .ref (A 4)) (C := RX11) (T := TX11) (N := 19) hx hb hts ii_X11_book_X11 hown hK hP 0 (xw_is (r := 0) (by omega) (xc_fix (r := 0) (by omega))) rfl 4 (by decide) (hts _ mm_X11_book_2) (fun _ hh => hh) rfl dX11_book_24 ?_
    refine lv_aload_n hx hb dX11_book_27 rfl (lv_at hl 0 rfl) ?_
    refine va_get (D := (dC, dI)) (ci := 10) (v := .ref (A 1)) (C := RX11) (T := TX11) (N := 19) hx hb hts ii_X11_book_X11 hown hK hP 0 (xw_is (r := 0) (by omega) (xc_fix (r := 0) (by omega))) rfl 0 (by decide) (hts _ mm_X11_book_1) (fun _ hh => hh) rfl dX11_book_28 ?_
    refine lv_aload_n hx hb dX11_book_31 rfl (lv_at hl 0 rfl) ?_
    refine va_get (D := (dC, dI)) (ci := 10) (v := .ref (A (36 + 20 * 0))) (C := RX11) (T := TX11) (N := 19) hx hb hts ii_X11_book_X11 hown hK hP 0 (xw_is (r := 0) (by omega) (xc_fix (r := 0) (by omega))) rfl 1 (by decide) (hts _ mm_X11_book_3) (fun _ hh => hh) rfl dX11_book_32 ?_
    refine va_callv (va_runV (As := [.ref (A 1), .ref (A (36 + 20 * 0))]) (rest := []) ⟨hx, hb, hml, hown, hts⟩ (x_X0_readAllJ l dC dI ad E hEE A C nb _ hN st2 sl3 so4 B g 400 0 c nm  hG.1 hO.1 (hf5) (hf6) ((CN.eq hRN hf8)) (hf7)) (cwV 2 hts gX11_book_X0_readAll rfl rfl rfl (by decide +kernel) ⟨Nat.le_of_ble_eq_true rfl, Nat.le_of_ble_eq_true rfl⟩) ⟨fun a U g mk q => ⟨q.1, xPre.blind hEE q.2⟩, va_recv hK hP (ci := 1) (q0 := 4) rfl (xw_is (r := 4) (by omega) (xc_fix (r := 4) (by omega))), fun U hU hW => ⟨rfl, xPre.of hEE hP hK hE hS hU hW⟩⟩ rfl rfl hl.1 rfl (lv_room (Nat.le_of_ble_eq_true rfl)) dX11_book_35 ⟨Nat.le_of_ble_eq_true rfl, Nat.le_of_ble_eq_true rfl⟩) hS (fun q _ h => XA.le hS.1 q h) (XA.le hS.1) (fun x t H locs ht hvm hw hB _ _ hS => ?_)
    have hP := xB.at ht hB
    clear hB ht hvm
    obtain ⟨st10, sl11, so12⟩ := x
    obtain ⟨hGst10, hLGst10, hOst10, hw⟩ := hw
    dsimp only at hGst10 hLGst10 hOst10 hw
    have hO : OG ad [4] so so12 := hO.tr hOst10 (by decide)
    have hP : va_P (dC, dI) vwCl (xw A C nb st10 sl11 so12) _ := hP
    have hG : XG [2, 4, 5, 13, 14] st st10 := hG.tr hGst10 (by decide)
    obtain ⟨n13, hf14, hf15, hf16, hf17⟩ := hw
    have hni : NI st sl st10 sl11 := hni.mg hGst10 (by decide) (by decide) hLGst10
    refine lv_aload_n hx hb dX11_book_38 rfl (lv_at hl 0 rfl) ?_
    refine va_callv (va_runV (As := []) (rest := []) ⟨hx, hb, hml, hown, hts⟩ (x_closeTapeF l dC dI ad E hEE A C nb _ hN st10 sl11 so12  hG.1) (cwV 0 hts gX11_book_X11_closeTape rfl rfl rfl (by decide +kernel) ⟨Nat.le_of_ble_eq_true rfl, Nat.le_of_ble_eq_true rfl⟩) ⟨fun a U g mk q => ⟨q.1, xPre.blind hEE q.2⟩, va_recv hK hP (ci := 10) (q0 := 0) rfl (xw_is (r := 0) (by omega) (xc_fix (r := 0) (by omega))), fun U hU hW => ⟨rfl, xPre.of hEE hP hK hE hS hU hW⟩⟩ rfl rfl hl.1 rfl (lv_room (Nat.le_of_ble_eq_true rfl)) dX11_book_39 ⟨Nat.le_of_ble_eq_true rfl, Nat.le_of_ble_eq_true rfl⟩) hS (fun q _ h => XA.le hS.1 q h) (XA.le hS.1) (fun x t H locs ht hvm hw hB _ _ hS => ?_)
    have hP := xB.at ht hB
    clear hB ht hvm
    obtain ⟨st19, sl20, so21⟩ := x
    obtain ⟨hGst19, hLGst19, hOst19, hw⟩ := hw
    dsimp only at hGst19 hLGst19 hOst19 hw
    replace hOst19 := hOst19.symm
    subst hOst19
    have hP : va_P (dC, dI) vwCl (xw A C nb st19 sl20 so12) _ := hP
    have hG : XG [2, 4, 5, 13, 14] st st19 := hG.tr hGst19 (by decide)
    obtain ⟨hf22, hf23, hf24⟩ := hw
    have hni : NI st sl st19 sl20 := hni.mg hGst19 (by decide) (by decide) hLGst19
    have h16 : st19 0 16 = nI (bBk B g 400 c nm 41 0 0).1 := hf23.trans hf17
    refine lv_aload_n hx hb dX11_book_42 rfl (lv_at hl 0 rfl) ?_
    refine va_get (D := (dC, dI)) (ci := 10) (v := .int (st19 0 16)) (C := RX11) (T := TX11) (N := 19) hx hb hts ii_X11_book_X11 hown hK hP 0 (xw_is (r := 0) (by omega) (xc_fix (r := 0) (by omega))) rfl 16 (by decide) (hts _ mm_X11_book_4) (fun _ hh => hh) rfl dX11_book_43 ?_
    obtain ⟨z25, ez25⟩ : ∃ y : Int32, st19 0 16 = y := ⟨_, rfl⟩
    refine zz_top (v := z25) (by exact ez25) ?_
    refine lv_if_eq (tgt := 60) hx hb dX11_book_46 (by decide) (fun c2 => ?_) (fun c2 => ?_)
    · refine lv_iload_n hx hb dX11_book_60 rfl (lv_at hl 1 rfl) ?_
      refine lv_iconst (v := 1) hx hb dX11_book_61 (by decide) ?_
      refine lv_icmp_ne (tgt := 72) hx hb dX11_book_62 (by decide) (fun _ => ?_) (fun cc => absurd cc (by decide))
      refine lv_aload_n hx hb dX11_book_72 rfl (lv_at hl 0 rfl) ?_
      refine va_get (D := (dC, dI)) (ci := 10) (v := .ref (A (36 + 20 * 1))) (C := RX11) (T := TX11) (N := 19) hx hb hts ii_X11_book_X11 hown hK hP 0 (xw_is (r := 0) (by omega) (xc_fix (r := 0) (by omega))) rfl 2 (by decide) (hts _ mm_X11_book_5) (fun _ hh => hh) rfl dX11_book_73 ?_
      refine lv_astore_n (lv' := [(2, .ref (A (36 + 20 * 1))), (0, .ref (A 0)), (1, .int 0)]) hx hb dX11_book_76 rfl hl (by decide) rfl (fun ls hl => ?_)
      refine lv_iload_n hx hb dX11_book_77 rfl (lv_at hl 2 rfl) ?_
      refine lv_iconst (v := 1) hx hb dX11_book_78 (by decide) ?_
      refine lv_icmp_ne (tgt := 103) hx hb dX11_book_79 (by decide) (fun _ => ?_) (fun cc => absurd cc (by decide))
      refine lv_aload_n hx hb dX11_book_103 rfl (lv_at hl 1 rfl) ?_
      refine va_get (D := (dC, dI)) (ci := 10) (v := .ref (A (36 + 20 * 1))) (C := RX11) (T := TX11) (N := 19) hx hb hts ii_X11_book_X11 hown hK hP 0 (xw_is (r := 0) (by omega) (xc_fix (r := 0) (by omega))) rfl 2 (by decide) (hts _ mm_X11_book_5) (fun _ hh => hh) rfl dX11_book_104 ?_
      refine lv_aload_n hx hb dX11_book_107 rfl (lv_at hl 1 rfl) ?_
      refine va_get (D := (dC, dI)) (ci := 10) (v := .ref (A (36 + 20 * 0))) (C := RX11) (T := TX11) (N := 19) hx hb hts ii_X11_book_X11 hown hK hP 0 (xw_is (r := 0) (by omega) (xc_fix (r := 0) (by omega))) rfl 1 (by decide) (hts _ mm_X11_book_3) (fun _ hh => hh) rfl dX11_book_108 ?_
      refine va_callv (va_runV (As := [.ref (A (36 + 20 * 0))]) (rest := []) ⟨hx, hb, hml, hown, hts⟩ (x_X4_copyFrom l dC dI ad E hEE A C nb _ hN st19 sl20 so12 1 0 (by omega) (by omega) hG.1 (by omega)) (cwV 1 hts gX11_book_X4_copyFrom rfl rfl rfl (by decide +kernel) ⟨Nat.le_of_ble_eq_true rfl, Nat.le_of_ble_eq_true rfl⟩) ⟨fun a U g mk q => ⟨q.1, xPre.blind hEE q.2⟩, va_recv hK hP (ci := 5) (q0 := (36 + 20 * 1)) rfl (xw_is (r := (36 + 20 * 1)) (by omega) (xc_pk (i := 1) (o := 0) (by omega) (by omega))), fun U hU hW => ⟨rfl, xPre.of hEE hP hK hE hS hU hW⟩⟩ rfl rfl hl.1 rfl (lv_room (Nat.le_of_ble_eq_true rfl)) dX11_book_111 ⟨Nat.le_of_ble_eq_true rfl, Nat.le_of_ble_eq_true rfl⟩) hS (fun q _ h => XA.le hS.1 q h) (XA.le hS.1) (fun x t H locs ht hvm hw hB _ _ hS => ?_)
      have hP := xB.at ht hB
      clear hB ht hvm
      obtain ⟨st27, sl28, so29⟩ := x
      obtain ⟨hGst27, hOst27, hw⟩ := hw
      dsimp only at hGst27 hOst27 hw
      replace hOst27 := hOst27.symm
      subst hOst27
      have hP : va_P (dC, dI) vwCl (xw A C nb st27 sl28 so12) _ := hP
      have hG : XG [2, 4, 5, 13, 14] st st27 := hG.tr hGst27 (by decide)
      have hf30 := hw
      have hni : NI st sl st27 sl28 := hni.cq hf30 hGst27 (by decide)
      refine lv_aload_n hx hb dX11_book_114 rfl (lv_at hl 1 rfl) ?_
      refine va_get (D := (dC, dI)) (ci := 10) (v := .ref (A 4)) (C := RX11) (T := TX11) (N := 19) hx hb hts ii_X11_book_X11 hown hK hP 0 (xw_is (r := 0) (by omega) (xc_fix (r := 0) (by omega))) rfl 4 (by decide) (hts _ mm_X11_book_2) (fun _ hh => hh) rfl dX11_book_115 ?_
      refine lv_aload_n hx hb dX11_book_118 rfl (lv_at hl 0 rfl) ?_
      refine lv_aload_n hx hb dX11_book_119 rfl (lv_at hl 1 rfl) ?_
      refine va_get (D := (dC, dI)) (ci := 10) (v := .ref (A 10)) (C := RX11) (T := TX11) (N := 19) hx hb hts ii_X11_book_X11 hown hK hP 0 (xw_is (r := 0) (by omega) (xc_fix (r := 0) (by omega))) rfl 7 (by decide) (hts _ mm_X11_book_7) (fun _ hh => hh) rfl dX11_book_120 ?_
      refine va_calli (va_runV (As := [.ref (A (36 + 20 * 1)), .ref (A 10)]) (rest := []) ⟨hx, hb, hml, hown, hts⟩ (x_X0_liveAll l dC dI ad E hEE A C nb _ hN st27 sl28 so12 1 n13 (by omega) hG.1 hO.1 (by rw [hGst27.2 4 5 (by rw [(by decide : xcl 4 5 = 6)]; decide), hGst19.2 4 5 (by rw [(by decide : xcl 4 5 = 6)]; decide), hf14]) (by omega) (BKs.eqf hf16 (fun jj hk => by show st27 6 jj = st10 6 jj; rw [hGst27.2 6 jj (by rw [(by unfold xcl; rfl : xcl 6 jj = 3)]; decide), hGst19.2 6 jj (by rw [(by unfold xcl; rfl : xcl 6 jj = 3)]; decide)]) (fun jj hk => by show so12 5 jj = so12 5 jj; rfl))) (cwV 2 hts gX11_book_X0_liveAll rfl rfl rfl (by decide +kernel) ⟨Nat.le_of_ble_eq_true rfl, Nat.le_of_ble_eq_true rfl⟩) ⟨fun a U g mk q => ⟨q.1, xPre.blind hEE q.2⟩, va_recv hK hP (ci := 1) (q0 := 4) rfl (xw_is (r := 4) (by omega) (xc_fix (r := 4) (by omega))), fun U hU hW => ⟨rfl, xPre.of hEE hP hK hE hS hU hW⟩⟩ rfl rfl hl.1 rfl (lv_room (Nat.le_of_ble_eq_true rfl)) dX11_book_123 ⟨Nat.le_of_ble_eq_true rfl, Nat.le_of_ble_eq_true rfl⟩) hS (fun q _ h => XA.le hS.1 q h) (XA.le hS.1) (fun r31 x t H locs ht hvm hw hB _ _ hS => ?_)
      have hP := xB.at ht hB
      clear hB ht hvm
      obtain ⟨st32, sl33, so34⟩ := x
      obtain ⟨hGst32, hLGst32, hOst32, hw⟩ := hw
      dsimp only at hGst32 hLGst32 hOst32 hw
      replace hOst32 := hOst32.symm
      subst hOst32
      have hP : va_P (dC, dI) vwCl (xw A C nb st32 sl33 so12) _ := hP
      have hG : XG [2, 4, 5, 13, 14] st st32 := hG.tr hGst32 (by decide)
      clear hw
      have hni : NI st sl st32 sl33 := hni.mg hGst32 (by decide) (by decide) hLGst32
      refine lv_istore_n (lv' := [(3, .int r31), (2, .ref (A (36 + 20 * 1))), (0, .ref (A 0)), (1, .int 0)]) hx hb dX11_book_126 rfl hl (by decide) rfl (fun ls hl => ?_)
      refine lv_aload_n hx hb dX11_book_127 rfl (lv_at hl 2 rfl) ?_
      refine va_get (D := (dC, dI)) (ci := 10) (v := .ref (A 17)) (C := RX11) (T := TX11) (N := 19) hx hb hts ii_X11_book_X11 hown hK hP 0 (xw_is (r := 0) (by omega) (xc_fix (r := 0) (by omega))) rfl 13 (by decide) (hts _ mm_X11_book_8) (fun _ hh => hh) rfl dX11_book_128 ?_
      refine lv_iconst (v := 0) hx hb dX11_book_131 (by decide) ?_
      refine lv_aload_n hx hb dX11_book_132 rfl (lv_at hl 2 rfl) ?_
      refine va_get (D := (dC, dI)) (ci := 10) (v := .ref (A 4)) (C := RX11) (T := TX11) (N := 19) hx hb hts ii_X11_book_X11 hown hK hP 0 (xw_is (r := 0) (by omega) (xc_fix (r := 0) (by omega))) rfl 4 (by decide) (hts _ mm_X11_book_2) (fun _ hh => hh) rfl dX11_book_133 ?_
      refine va_getN (host := "OffTheLead") (D := (dC, dI)) (ci := 1) (v := .int (st32 4 6)) (C := RX0) (T := TX0) (N := 7) hx hb hts ii_X11_book_X0 hown hK hP 4 (xw_is (r := 4) (by omega) (xc_fix (r := 4) (by omega))) rfl 6 (by decide) (va_Nw.use rfl (nf_X11_354 hEv)) (fun _ hh => hh) rfl dX11_book_136 ?_
      obtain ⟨z35, ez35⟩ : ∃ y : Int32, st32 4 6 = y := ⟨_, rfl⟩
      refine zz_top (v := z35) (by exact ez35) ?_
      refine va_iast hx hb hK hP (xD hN _ _ _ _ _ _) hS 17 17 (xw_is (r := 17) (by omega) (xc_fix (r := 17) (by omega))) (xt_is (r := 17) (by omega) rfl) (i := 0) (zz_in (by decide)) dX11_book_139 (fun H locs hP _ hS => ?_)
      have hP : va_P (dC, dI) vwCl (xw A C nb (up2 st32 17 0 z35) sl33 so12) H := by rw [← xset (r := 17) (k := 0) (v := z35) (xc_fix (r := 17) (by omega))]; exact hP
      obtain ⟨st36, est36⟩ : ∃ y, y = up2 st32 17 0 z35 := ⟨_, rfl⟩
      have hG : XG [2, 4, 5, 13, 14] st st36 := by rw [est36]; exact hG.up (xz (r := 17) (k := 0) (by decide : xrg 17 0 = 0)) (xpn (c := 0) (by decide : xcl 17 0 = 0) (by decide))
      rw [← est36] at hP
      have hni : NI st sl st36 sl33 := by rw [est36]; exact hni.up (fun q9 a9 h9 => by omega) (by omega)
      refine lv_aload_n hx hb dX11_book_140 rfl (lv_at hl 2 rfl) ?_
      refine va_get (D := (dC, dI)) (ci := 10) (v := .ref (A 17)) (C := RX11) (T := TX11) (N := 19) hx hb hts ii_X11_book_X11 hown hK hP 0 (xw_is (r := 0) (by omega) (xc_fix (r := 0) (by omega))) rfl 13 (by decide) (hts _ mm_X11_book_8) (fun _ hh => hh) rfl dX11_book_141 ?_
      refine lv_iconst (v := 1) hx hb dX11_book_144 (by decide) ?_
      refine lv_iload_n hx hb dX11_book_145 rfl (lv_at hl 0 rfl) ?_
      refine va_iast hx hb hK hP (xD hN _ _ _ _ _ _) hS 17 17 (xw_is (r := 17) (by omega) (xc_fix (r := 17) (by omega))) (xt_is (r := 17) (by omega) rfl) (i := 1) (zz_in (by decide)) dX11_book_146 (fun H locs hP _ hS => ?_)
      have hP : va_P (dC, dI) vwCl (xw A C nb (up2 st36 17 1 r31) sl33 so12) H := by rw [← xset (r := 17) (k := 1) (v := r31) (xc_fix (r := 17) (by omega))]; exact hP
      obtain ⟨st37, est37⟩ : ∃ y, y = up2 st36 17 1 r31 := ⟨_, rfl⟩
      have hG : XG [2, 4, 5, 13, 14] st st37 := by rw [est37]; exact hG.up (xz (r := 17) (k := 1) (by decide : xrg 17 1 = 0)) (xpn (c := 0) (by decide : xcl 17 1 = 0) (by decide))
      rw [← est37] at hP
      have hni : NI st sl st37 sl33 := by rw [est37]; exact hni.up (fun q9 a9 h9 => by omega) (by omega)
      refine lv_aload_n hx hb dX11_book_147 rfl (lv_at hl 2 rfl) ?_
      refine va_get (D := (dC, dI)) (ci := 10) (v := .ref (A 17)) (C := RX11) (T := TX11) (N := 19) hx hb hts ii_X11_book_X11 hown hK hP 0 (xw_is (r := 0) (by omega) (xc_fix (r := 0) (by omega))) rfl 13 (by decide) (hts _ mm_X11_book_8) (fun _ hh => hh) rfl dX11_book_148 ?_
      refine lv_iconst (v := 2) hx hb dX11_book_151 (by decide) ?_
      refine lv_aload_n hx hb dX11_book_152 rfl (lv_at hl 1 rfl) ?_
      refine va_getN (host := "OffTheLead") (D := (dC, dI)) (ci := 5) (v := .int (st37 (36 + 20 * 1) 9)) (C := RX4) (T := TX4) (N := 12) hx hb hts ii_X11_book_X4 hown hK hP (36 + 20 * 1) (xw_is (r := (36 + 20 * 1)) (by omega) (xc_pk (i := 1) (o := 0) (by omega) (by omega))) rfl 9 (by decide) (va_Nw.use rfl (nf_X11_212 hEv)) (fun _ hh => hh) rfl dX11_book_153 ?_
      obtain ⟨z38, ez38⟩ : ∃ y : Int32, st37 (36 + 20 * 1) 9 = y := ⟨_, rfl⟩
      refine zz_top (v := z38) (by exact ez38) ?_
      refine va_iast hx hb hK hP (xD hN _ _ _ _ _ _) hS 17 17 (xw_is (r := 17) (by omega) (xc_fix (r := 17) (by omega))) (xt_is (r := 17) (by omega) rfl) (i := 2) (zz_in (by decide)) dX11_book_156 (fun H locs hP _ hS => ?_)
      have hP : va_P (dC, dI) vwCl (xw A C nb (up2 st37 17 2 z38) sl33 so12) H := by rw [← xset (r := 17) (k := 2) (v := z38) (xc_fix (r := 17) (by omega))]; exact hP
      obtain ⟨st39, est39⟩ : ∃ y, y = up2 st37 17 2 z38 := ⟨_, rfl⟩
      have hG : XG [2, 4, 5, 13, 14] st st39 := by rw [est39]; exact hG.up (xz (r := 17) (k := 2) (by decide : xrg 17 2 = 0)) (xpn (c := 0) (by decide : xcl 17 2 = 0) (by decide))
      rw [← est39] at hP
      have hni : NI st sl st39 sl33 := by rw [est39]; exact hni.up (fun q9 a9 h9 => by omega) (by omega)
      refine lv_aload_n hx hb dX11_book_157 rfl (lv_at hl 2 rfl) ?_
      refine va_get (D := (dC, dI)) (ci := 10) (v := .ref (A 17)) (C := RX11) (T := TX11) (N := 19) hx hb hts ii_X11_book_X11 hown hK hP 0 (xw_is (r := 0) (by omega) (xc_fix (r := 0) (by omega))) rfl 13 (by decide) (hts _ mm_X11_book_8) (fun _ hh => hh) rfl dX11_book_158 ?_
      refine lv_iconst (v := 3) hx hb dX11_book_161 (by decide) ?_
      refine lv_aload_n hx hb dX11_book_162 rfl (lv_at hl 1 rfl) ?_
      refine va_calli (va_runV (As := []) (rest := [.int 3, .ref (A 17)]) ⟨hx, hb, hml, hown, hts⟩ (x_X4_awayBits l dC dI ad E hEE A C nb _ hN st39 sl33 so12 1 (by omega) hG.1) (cwV 0 hts gX11_book_X4_awayBits rfl rfl rfl (by decide +kernel) ⟨Nat.le_of_ble_eq_true rfl, Nat.le_of_ble_eq_true rfl⟩) ⟨fun a U g mk q => ⟨q.1, xPre.blind hEE q.2⟩, va_recv hK hP (ci := 5) (q0 := (36 + 20 * 1)) rfl (xw_is (r := (36 + 20 * 1)) (by omega) (xc_pk (i := 1) (o := 0) (by omega) (by omega))), fun U hU hW => ⟨rfl, xPre.of hEE hP hK hE hS hU hW⟩⟩ rfl rfl hl.1 rfl (lv_room (Nat.le_of_ble_eq_true rfl)) dX11_book_163 ⟨Nat.le_of_ble_eq_true rfl, Nat.le_of_ble_eq_true rfl⟩) hS (fun q _ h => XA.le hS.1 q h) (XA.le hS.1) (fun r40 x t H locs ht hvm hw hB _ _ hS => ?_)
      have hP := xB.at ht hB
      clear hB ht hvm
      obtain ⟨rfl, hw⟩ := hw
      have hP : va_P (dC, dI) vwCl (xw A C nb st39 sl33 so12) _ := hP
      clear hw
      refine va_iast hx hb hK hP (xD hN _ _ _ _ _ _) hS 17 17 (xw_is (r := 17) (by omega) (xc_fix (r := 17) (by omega))) (xt_is (r := 17) (by omega) rfl) (i := 3) (zz_in (by decide)) dX11_book_166 (fun H locs hP _ hS => ?_)
      have hP : va_P (dC, dI) vwCl (xw A C nb (up2 st39 17 3 r40) sl33 so12) H := by rw [← xset (r := 17) (k := 3) (v := r40) (xc_fix (r := 17) (by omega))]; exact hP
      obtain ⟨st41, est41⟩ : ∃ y, y = up2 st39 17 3 r40 := ⟨_, rfl⟩
      have hG : XG [2, 4, 5, 13, 14] st st41 := by rw [est41]; exact hG.up (xz (r := 17) (k := 3) (by decide : xrg 17 3 = 0)) (xpn (c := 0) (by decide : xcl 17 3 = 0) (by decide))
      rw [← est41] at hP
      have hni : NI st sl st41 sl33 := by rw [est41]; exact hni.up (fun q9 a9 h9 => by omega) (by omega)
      refine lv_aload_n hx hb dX11_book_167 rfl (lv_at hl 2 rfl) ?_
      refine va_get (D := (dC, dI)) (ci := 10) (v := .ref (A 4)) (C := RX11) (T := TX11) (N := 19) hx hb hts ii_X11_book_X11 hown hK hP 0 (xw_is (r := 0) (by omega) (xc_fix (r := 0) (by omega))) rfl 4 (by decide) (hts _ mm_X11_book_2) (fun _ hh => hh) rfl dX11_book_168 ?_
      refine va_getN (host := "OffTheLead") (D := (dC, dI)) (ci := 1) (v := .int (st41 4 6)) (C := RX0) (T := TX0) (N := 7) hx hb hts ii_X11_book_X0 hown hK hP 4 (xw_is (r := 4) (by omega) (xc_fix (r := 4) (by omega))) rfl 6 (by decide) (va_Nw.use rfl (nf_X11_354 hEv)) (fun _ hh => hh) rfl dX11_book_171 ?_
      refine zz_top (v := z35) (by show st41 4 6 = _; rw [est41, up2_ne (r := 17) (k := 3) (a := 4) (j := 6) _ _ (by omega), est39, up2_ne (r := 17) (k := 2) (a := 4) (j := 6) _ _ (by omega), est37, up2_ne (r := 17) (k := 1) (a := 4) (j := 6) _ _ (by omega), est36, up2_ne (r := 17) (k := 0) (a := 4) (j := 6) _ _ (by omega), ez35]) ?_
      refine lv_if_ne (tgt := 181) hx hb dX11_book_174 (by decide) (fun c5 => ?_) (fun c5 => ?_)
      · refine lv_iload_n hx hb dX11_book_181 rfl (lv_at hl 0 rfl) ?_
        exact W.iret (v := r31) hx hb hr (fun t ht hW => ⟨⟨r31, (st41, sl33, so12), rfl, ⟨hG, hO, Or.inl ⟨by show st41 1 1 = 0; rw [est41, up2_ne (r := 17) (k := 3) (a := 1) (j := 1) _ _ (by omega), est39, up2_ne (r := 17) (k := 2) (a := 1) (j := 1) _ _ (by omega), est37, up2_ne (r := 17) (k := 1) (a := 1) (j := 1) _ _ (by omega), est36, up2_ne (r := 17) (k := 0) (a := 1) (j := 1) _ _ (by omega), hGst32.2 1 1 (by rw [(by decide : xcl 1 1 = 1)]; decide), hGst27.2 1 1 (by rw [(by decide : xcl 1 1 = 1)]; decide), hf22], Or.inl c1, hni, by show st41 0 16 = _; rw [est41, up2_ne (r := 17) (k := 3) (a := 0) (j := 16) _ _ (by omega), est39, up2_ne (r := 17) (k := 2) (a := 0) (j := 16) _ _ (by omega), est37, up2_ne (r := 17) (k := 1) (a := 0) (j := 16) _ _ (by omega), est36, up2_ne (r := 17) (k := 0) (a := 0) (j := 16) _ _ (by omega), hGst32.2 0 16 (by rw [(by decide : xcl 0 16 = 12)]; decide), hGst27.2 0 16 (by rw [(by decide : xcl 0 16 = 12)]; decide)]; exact h16⟩⟩, xB.of ht hP⟩, hS.F ht⟩) hS.2.2 dX11_book_182
      · refine lv_iconst (v := (-1)) hx hb dX11_book_177 (by decide) ?_
        refine lv_goto (tgt := 182) hx hb dX11_book_178 (by decide) ?_
        exact W.iret (v := (-1)) hx hb hr (fun t ht hW => ⟨⟨(-1), (st41, sl33, so12), rfl, ⟨hG, hO, Or.inl ⟨by show st41 1 1 = 0; rw [est41, up2_ne (r := 17) (k := 3) (a := 1) (j := 1) _ _ (by omega), est39, up2_ne (r := 17) (k := 2) (a := 1) (j := 1) _ _ (by omega), est37, up2_ne (r := 17) (k := 1) (a := 1) (j := 1) _ _ (by omega), est36, up2_ne (r := 17) (k := 0) (a := 1) (j := 1) _ _ (by omega), hGst32.2 1 1 (by rw [(by decide : xcl 1 1 = 1)]; decide), hGst27.2 1 1 (by rw [(by decide : xcl 1 1 = 1)]; decide), hf22], Or.inl c1, hni, by show st41 0 16 = _; rw [est41, up2_ne (r := 17) (k := 3) (a := 0) (j := 16) _ _ (by omega), est39, up2_ne (r := 17) (k := 2) (a := 0) (j := 16) _ _ (by omega), est37, up2_ne (r := 17) (k := 1) (a := 0) (j := 16) _ _ (by omega), est36, up2_ne (r := 17) (k := 0) (a := 0) (j := 16) _ _ (by omega), hGst32.2 0 16 (by rw [(by decide : xcl 0 16 = 12)]; decide), hGst27.2 0 16 (by rw [(by decide : xcl 0 16 = 12)]; decide)]; exact h16⟩⟩, xB.of ht hP⟩, hS.F ht⟩) hS.2.2 dX11_book_182
    · refine lv_bipush (v := (-2)) hx hb dX11_book_49 (by decide) ?_
      refine lv_aload_n hx hb dX11_book_51 rfl (lv_at hl 0 rfl) ?_
      refine va_get (D := (dC, dI)) (ci := 10) (v := .ref (A 1)) (C := RX11) (T := TX11) (N := 19) hx hb hts ii_X11_book_X11 hown hK hP 0 (xw_is (r := 0) (by omega) (xc_fix (r := 0) (by omega))) rfl 0 (by decide) (hts _ mm_X11_book_1) (fun _ hh => hh) rfl dX11_book_52 ?_
      refine va_getN (host := "OffTheLead") (D := (dC, dI)) (ci := 9) (v := .int (st19 1 14)) (C := RX8) (T := TX8) (N := 15) hx hb hts ii_X11_book_X8 hown hK hP 1 (xw_is (r := 1) (by omega) (xc_fix (r := 1) (by omega))) rfl 14 (by decide) (va_Nw.use rfl (nf_X11_120 hEv)) (fun _ hh => hh) rfl dX11_book_55 ?_
      obtain ⟨z42, ez42⟩ : ∃ y : Int32, st19 1 14 = y := ⟨_, rfl⟩
      refine zz_top (v := z42) (by exact ez42) ?_
      refine lv_isub hx hb dX11_book_58 ?_
      refine lv_topi (fun z43 ez43 => ?_)
      clear ez43
      exact W.iret (v := z43) hx hb hr (fun t ht hW => ⟨⟨z43, (st19, sl20, so12), rfl, ⟨hG, hO, Or.inl ⟨by show st19 1 1 = 0; rw [hf22], Or.inl c1, hni, by show st19 0 16 = _; exact h16⟩⟩, xB.of ht hP⟩, hS.F ht⟩) hS.2.2 dX11_book_59
  · refine lv_iload_n hx hb dX11_book_4 rfl (lv_at hl 1 rfl) ?_
    refine lv_iconst (v := 1) hx hb dX11_book_5 (by decide) ?_
    refine lv_icmp_eq (tgt := 13) hx hb dX11_book_6 (by decide) (fun c6 => ?_) (fun c6 => ?_)
    · have hl : lv_has ls 4 [(0, .ref (A 0)), (1, .int 1)] := by rw [c6] at hl; exact hl
      refine lv_aload_n hx hb dX11_book_13 rfl (lv_at hl 0 rfl) ?_
      refine va_get (D := (dC, dI)) (ci := 10) (v := .ref (A 1)) (C := RX11) (T := TX11) (N := 19) hx hb hts ii_X11_book_X11 hown hK hP 0 (xw_is (r := 0) (by omega) (xc_fix (r := 0) (by omega))) rfl 0 (by decide) (hts _ mm_X11_book_1) (fun _ hh => hh) rfl dX11_book_14 ?_
      refine lv_sipush (v := 400) hx hb dX11_book_17 (by decide) ?_
      refine va_callv (va_runV (As := [.int 400]) (rest := []) ⟨hx, hb, hml, hown, hts⟩ (y_open400 l dC dI ad E hEE A C nb _ hN st sl so B g  hG.1 hO.1 (ht) (hg) (hbt)) (cwV 1 hts gX11_book_X8_open rfl rfl rfl (by decide +kernel) ⟨Nat.le_of_ble_eq_true rfl, Nat.le_of_ble_eq_true rfl⟩) ⟨fun a U g mk q => ⟨q.1, xPre.blind hEE q.2⟩, va_recv hK hP (ci := 9) (q0 := 1) rfl (xw_is (r := 1) (by omega) (xc_fix (r := 1) (by omega))), fun U hU hW => ⟨rfl, xPre.of hEE hP hK hE hS hU hW⟩⟩ rfl rfl hl.1 rfl (lv_room (Nat.le_of_ble_eq_true rfl)) dX11_book_20 ⟨Nat.le_of_ble_eq_true rfl, Nat.le_of_ble_eq_true rfl⟩) hS (fun q _ h => XA.le hS.1 q h) (XA.le hS.1) (fun x t H locs ht hvm hw hB _ _ hS => ?_)
      have hP := xB.at ht hB
      clear hB ht hvm
      obtain ⟨st45, sl46, so47⟩ := x
      obtain ⟨hGst45, hOst45, hw⟩ := hw
      dsimp only at hGst45 hOst45 hw
      have hO : OG ad [4] so so47 := hO.tr hOst45 (by decide)
      have hP : va_P (dC, dI) vwCl (xw A C nb st45 sl46 so47) _ := hP
      have hG : XG [2, 4, 5, 13, 14] st st45 := hG.tr hGst45 (by decide)
      obtain ⟨hf48, hf49, hf50, hf51⟩ := hw
      have hni : NI st sl st45 sl46 := hni.mg hGst45 (by decide) (by decide) (fun r9 k9 h9 => (hf51 r9 k9 h9).2)
      have hLGst45 : LGq sl sl46 := fun r9 k9 h9 => (hf51 r9 k9 h9).2
      refine lv_aload_n hx hb dX11_book_23 rfl (lv_at hl 0 rfl) ?_
      refine va_get (D := (dC, dI)) (ci := 10) (v := .ref (A 4)) (C := RX11) (T := TX11) (N := 19) hx hb hts ii_X11_book_X11 hown hK hP 0 (xw_is (r := 0) (by omega) (xc_fix (r := 0) (by omega))) rfl 4 (by decide) (hts _ mm_X11_book_2) (fun _ hh => hh) rfl dX11_book_24 ?_
      refine lv_aload_n hx hb dX11_book_27 rfl (lv_at hl 0 rfl) ?_
      refine va_get (D := (dC, dI)) (ci := 10) (v := .ref (A 1)) (C := RX11) (T := TX11) (N := 19) hx hb hts ii_X11_book_X11 hown hK hP 0 (xw_is (r := 0) (by omega) (xc_fix (r := 0) (by omega))) rfl 0 (by decide) (hts _ mm_X11_book_1) (fun _ hh => hh) rfl dX11_book_28 ?_
      refine lv_aload_n hx hb dX11_book_31 rfl (lv_at hl 0 rfl) ?_
      refine va_get (D := (dC, dI)) (ci := 10) (v := .ref (A (36 + 20 * 0))) (C := RX11) (T := TX11) (N := 19) hx hb hts ii_X11_book_X11 hown hK hP 0 (xw_is (r := 0) (by omega) (xc_fix (r := 0) (by omega))) rfl 1 (by decide) (hts _ mm_X11_book_3) (fun _ hh => hh) rfl dX11_book_32 ?_
      refine va_callv (va_runV (As := [.ref (A 1), .ref (A (36 + 20 * 0))]) (rest := []) ⟨hx, hb, hml, hown, hts⟩ (x_X0_readAllJ l dC dI ad E hEE A C nb _ hN st45 sl46 so47 B g 400 0 c nm  hG.1 hO.1 (hf48) (hf49) ((CN.eq hRN hf51)) (hf50)) (cwV 2 hts gX11_book_X0_readAll rfl rfl rfl (by decide +kernel) ⟨Nat.le_of_ble_eq_true rfl, Nat.le_of_ble_eq_true rfl⟩) ⟨fun a U g mk q => ⟨q.1, xPre.blind hEE q.2⟩, va_recv hK hP (ci := 1) (q0 := 4) rfl (xw_is (r := 4) (by omega) (xc_fix (r := 4) (by omega))), fun U hU hW => ⟨rfl, xPre.of hEE hP hK hE hS hU hW⟩⟩ rfl rfl hl.1 rfl (lv_room (Nat.le_of_ble_eq_true rfl)) dX11_book_35 ⟨Nat.le_of_ble_eq_true rfl, Nat.le_of_ble_eq_true rfl⟩) hS (fun q _ h => XA.le hS.1 q h) (XA.le hS.1) (fun x t H locs ht hvm hw hB _ _ hS => ?_)
      have hP := xB.at ht hB
      clear hB ht hvm
      obtain ⟨st53, sl54, so55⟩ := x
      obtain ⟨hGst53, hLGst53, hOst53, hw⟩ := hw
      dsimp only at hGst53 hLGst53 hOst53 hw
      have hO : OG ad [4] so so55 := hO.tr hOst53 (by decide)
      have hP : va_P (dC, dI) vwCl (xw A C nb st53 sl54 so55) _ := hP
      have hG : XG [2, 4, 5, 13, 14] st st53 := hG.tr hGst53 (by decide)
      obtain ⟨n56, hf57, hf58, hf59, hf60⟩ := hw
      have hni : NI st sl st53 sl54 := hni.mg hGst53 (by decide) (by decide) hLGst53
      refine lv_aload_n hx hb dX11_book_38 rfl (lv_at hl 0 rfl) ?_
      refine va_callv (va_runV (As := []) (rest := []) ⟨hx, hb, hml, hown, hts⟩ (x_closeTapeF l dC dI ad E hEE A C nb _ hN st53 sl54 so55  hG.1) (cwV 0 hts gX11_book_X11_closeTape rfl rfl rfl (by decide +kernel) ⟨Nat.le_of_ble_eq_true rfl, Nat.le_of_ble_eq_true rfl⟩) ⟨fun a U g mk q => ⟨q.1, xPre.blind hEE q.2⟩, va_recv hK hP (ci := 10) (q0 := 0) rfl (xw_is (r := 0) (by omega) (xc_fix (r := 0) (by omega))), fun U hU hW => ⟨rfl, xPre.of hEE hP hK hE hS hU hW⟩⟩ rfl rfl hl.1 rfl (lv_room (Nat.le_of_ble_eq_true rfl)) dX11_book_39 ⟨Nat.le_of_ble_eq_true rfl, Nat.le_of_ble_eq_true rfl⟩) hS (fun q _ h => XA.le hS.1 q h) (XA.le hS.1) (fun x t H locs ht hvm hw hB _ _ hS => ?_)
      have hP := xB.at ht hB
      clear hB ht hvm
      obtain ⟨st62, sl63, so64⟩ := x
      obtain ⟨hGst62, hLGst62, hOst62, hw⟩ := hw
      dsimp only at hGst62 hLGst62 hOst62 hw
      replace hOst62 := hOst62.symm
      subst hOst62
      have hP : va_P (dC, dI) vwCl (xw A C nb st62 sl63 so55) _ := hP
      have hG : XG [2, 4, 5, 13, 14] st st62 := hG.tr hGst62 (by decide)
      obtain ⟨hf65, hf66, hf67⟩ := hw
      have hni : NI st sl st62 sl63 := hni.mg hGst62 (by decide) (by decide) hLGst62
      have h16 : st62 0 16 = nI (bBk B g 400 c nm 41 0 0).1 := hf66.trans hf60
      refine lv_aload_n hx hb dX11_book_42 rfl (lv_at hl 0 rfl) ?_
      refine va_get (D := (dC, dI)) (ci := 10) (v := .int (st62 0 16)) (C := RX11) (T := TX11) (N := 19) hx hb hts ii_X11_book_X11 hown hK hP 0 (xw_is (r := 0) (by omega) (xc_fix (r := 0) (by omega))) rfl 16 (by decide) (hts _ mm_X11_book_4) (fun _ hh => hh) rfl dX11_book_43 ?_
      obtain ⟨z68, ez68⟩ : ∃ y : Int32, st62 0 16 = y := ⟨_, rfl⟩
      refine zz_top (v := z68) (by exact ez68) ?_
      refine lv_if_eq (tgt := 60) hx hb dX11_book_46 (by decide) (fun c7 => ?_) (fun c7 => ?_)
      · refine lv_iload_n hx hb dX11_book_60 rfl (lv_at hl 1 rfl) ?_
        refine lv_iconst (v := 1) hx hb dX11_book_61 (by decide) ?_
        refine lv_icmp_ne (tgt := 72) hx hb dX11_book_62 (by decide) (fun cc => absurd (by decide) cc) (fun _ => ?_)
        refine lv_aload_n hx hb dX11_book_65 rfl (lv_at hl 0 rfl) ?_
        refine va_get (D := (dC, dI)) (ci := 10) (v := .ref (A (36 + 20 * 0))) (C := RX11) (T := TX11) (N := 19) hx hb hts ii_X11_book_X11 hown hK hP 0 (xw_is (r := 0) (by omega) (xc_fix (r := 0) (by omega))) rfl 1 (by decide) (hts _ mm_X11_book_3) (fun _ hh => hh) rfl dX11_book_66 ?_
        refine lv_goto (tgt := 76) hx hb dX11_book_69 (by decide) ?_
        refine lv_astore_n (lv' := [(2, .ref (A (36 + 20 * 0))), (0, .ref (A 0)), (1, .int 1)]) hx hb dX11_book_76 rfl hl (by decide) rfl (fun ls hl => ?_)
        refine lv_iload_n hx hb dX11_book_77 rfl (lv_at hl 2 rfl) ?_
        refine lv_iconst (v := 1) hx hb dX11_book_78 (by decide) ?_
        refine lv_icmp_ne (tgt := 103) hx hb dX11_book_79 (by decide) (fun cc => absurd (by decide) cc) (fun _ => ?_)
        refine lv_aload_n hx hb dX11_book_82 rfl (lv_at hl 1 rfl) ?_
        refine va_get (D := (dC, dI)) (ci := 10) (v := .ref (A 11)) (C := RX11) (T := TX11) (N := 19) hx hb hts ii_X11_book_X11 hown hK hP 0 (xw_is (r := 0) (by omega) (xc_fix (r := 0) (by omega))) rfl 8 (by decide) (hts _ mm_X11_book_6) (fun _ hh => hh) rfl dX11_book_83 ?_
        refine lv_aload_n hx hb dX11_book_86 rfl (lv_at hl 1 rfl) ?_
        refine va_get (D := (dC, dI)) (ci := 10) (v := .ref (A (36 + 20 * 0))) (C := RX11) (T := TX11) (N := 19) hx hb hts ii_X11_book_X11 hown hK hP 0 (xw_is (r := 0) (by omega) (xc_fix (r := 0) (by omega))) rfl 1 (by decide) (hts _ mm_X11_book_3) (fun _ hh => hh) rfl dX11_book_87 ?_
        refine va_callv (va_runV (As := [.ref (A (36 + 20 * 0))]) (rest := []) ⟨hx, hb, hml, hown, hts⟩ (x_X3_mark l dC dI ad E hEE A C nb _ hN st62 sl63 so55  hG.1) (cwV 1 hts gX11_book_X3_mark rfl rfl rfl (by decide +kernel) ⟨Nat.le_of_ble_eq_true rfl, Nat.le_of_ble_eq_true rfl⟩) ⟨fun a U g mk q => ⟨q.1, xPre.blind hEE q.2⟩, va_recv hK hP (ci := 4) (q0 := 11) rfl (xw_is (r := 11) (by omega) (xc_fix (r := 11) (by omega))), fun U hU hW => ⟨rfl, xPre.of hEE hP hK hE hS hU hW⟩⟩ rfl rfl hl.1 rfl (lv_room (Nat.le_of_ble_eq_true rfl)) dX11_book_90 ⟨Nat.le_of_ble_eq_true rfl, Nat.le_of_ble_eq_true rfl⟩) hS (fun q _ h => XA.le hS.1 q h) (XA.le hS.1) (fun x t H locs ht hvm hw hB _ _ hS => ?_)
        have hP := xB.at ht hB
        clear hB ht hvm
        obtain ⟨st70, sl71, so72⟩ := x
        obtain ⟨hGst70, hOst70, hw⟩ := hw
        dsimp only at hGst70 hOst70 hw
        replace hOst70 := hOst70.symm
        subst hOst70
        have hP : va_P (dC, dI) vwCl (xw A C nb st70 sl71 so55) _ := hP
        have hG : XG [2, 4, 5, 13, 14] st st70 := hG.tr hGst70 (by decide)
        obtain ⟨hf73, hf74⟩ := hw
        have hni : NI st sl st70 sl71 := hni.tr hf73
        have hmk : MKD st70 sl71 := hf74
        refine lv_aload_n hx hb dX11_book_93 rfl (lv_at hl 1 rfl) ?_
        refine va_get (D := (dC, dI)) (ci := 10) (v := .ref (A 11)) (C := RX11) (T := TX11) (N := 19) hx hb hts ii_X11_book_X11 hown hK hP 0 (xw_is (r := 0) (by omega) (xc_fix (r := 0) (by omega))) rfl 8 (by decide) (hts _ mm_X11_book_6) (fun _ hh => hh) rfl dX11_book_94 ?_
        refine va_callv (va_runV (As := []) (rest := []) ⟨hx, hb, hml, hown, hts⟩ (x_X3_keepMarked l dC dI ad E hEE A C nb _ hN st70 sl71 so55  hG.1) (cwV 0 hts gX11_book_X3_keepMarked rfl rfl rfl (by decide +kernel) ⟨Nat.le_of_ble_eq_true rfl, Nat.le_of_ble_eq_true rfl⟩) ⟨fun a U g mk q => ⟨q.1, xPre.blind hEE q.2⟩, va_recv hK hP (ci := 4) (q0 := 11) rfl (xw_is (r := 11) (by omega) (xc_fix (r := 11) (by omega))), fun U hU hW => ⟨rfl, xPre.of hEE hP hK hE hS hU hW⟩⟩ rfl rfl hl.1 rfl (lv_room (Nat.le_of_ble_eq_true rfl)) dX11_book_97 ⟨Nat.le_of_ble_eq_true rfl, Nat.le_of_ble_eq_true rfl⟩) hS (fun q _ h => XA.le hS.1 q h) (XA.le hS.1) (fun x t H locs ht hvm hw hB _ _ hS => ?_)
        have hP := xB.at ht hB
        clear hB ht hvm
        obtain ⟨st76, sl77, so78⟩ := x
        obtain ⟨hGst76, hLGst76, hOst76, hw⟩ := hw
        dsimp only at hGst76 hLGst76 hOst76 hw
        replace hOst76 := hOst76.symm
        subst hOst76
        have hP : va_P (dC, dI) vwCl (xw A C nb st76 sl77 so55) _ := hP
        have hG : XG [2, 4, 5, 13, 14] st st76 := hG.tr hGst76 (by decide)
        have hf79 := hw
        have hni : NI st sl st76 sl77 := hni.kp hmk hf79 hGst76 (by decide) hLGst76
        refine lv_goto (tgt := 114) hx hb dX11_book_100 (by decide) ?_
        refine lv_aload_n hx hb dX11_book_114 rfl (lv_at hl 1 rfl) ?_
        refine va_get (D := (dC, dI)) (ci := 10) (v := .ref (A 4)) (C := RX11) (T := TX11) (N := 19) hx hb hts ii_X11_book_X11 hown hK hP 0 (xw_is (r := 0) (by omega) (xc_fix (r := 0) (by omega))) rfl 4 (by decide) (hts _ mm_X11_book_2) (fun _ hh => hh) rfl dX11_book_115 ?_
        refine lv_aload_n hx hb dX11_book_118 rfl (lv_at hl 0 rfl) ?_
        refine lv_aload_n hx hb dX11_book_119 rfl (lv_at hl 1 rfl) ?_
        refine va_get (D := (dC, dI)) (ci := 10) (v := .ref (A 10)) (C := RX11) (T := TX11) (N := 19) hx hb hts ii_X11_book_X11 hown hK hP 0 (xw_is (r := 0) (by omega) (xc_fix (r := 0) (by omega))) rfl 7 (by decide) (hts _ mm_X11_book_7) (fun _ hh => hh) rfl dX11_book_120 ?_
        refine va_calli (va_runV (As := [.ref (A (36 + 20 * 0)), .ref (A 10)]) (rest := []) ⟨hx, hb, hml, hown, hts⟩ (x_X0_liveAll l dC dI ad E hEE A C nb _ hN st76 sl77 so55 0 n56 (by omega) hG.1 hO.1 (by rw [hGst76.2 4 5 (by rw [(by decide : xcl 4 5 = 6)]; decide), hGst70.2 4 5 (by rw [(by decide : xcl 4 5 = 6)]; decide), hGst62.2 4 5 (by rw [(by decide : xcl 4 5 = 6)]; decide), hf57]) (by omega) (BKs.eqf hf59 (fun jj hk => by show st76 6 jj = st53 6 jj; rw [hGst76.2 6 jj (by rw [(by unfold xcl; rfl : xcl 6 jj = 3)]; decide), hGst70.2 6 jj (by rw [(by unfold xcl; rfl : xcl 6 jj = 3)]; decide), hGst62.2 6 jj (by rw [(by unfold xcl; rfl : xcl 6 jj = 3)]; decide)]) (fun jj hk => by show so55 5 jj = so55 5 jj; rfl))) (cwV 2 hts gX11_book_X0_liveAll rfl rfl rfl (by decide +kernel) ⟨Nat.le_of_ble_eq_true rfl, Nat.le_of_ble_eq_true rfl⟩) ⟨fun a U g mk q => ⟨q.1, xPre.blind hEE q.2⟩, va_recv hK hP (ci := 1) (q0 := 4) rfl (xw_is (r := 4) (by omega) (xc_fix (r := 4) (by omega))), fun U hU hW => ⟨rfl, xPre.of hEE hP hK hE hS hU hW⟩⟩ rfl rfl hl.1 rfl (lv_room (Nat.le_of_ble_eq_true rfl)) dX11_book_123 ⟨Nat.le_of_ble_eq_true rfl, Nat.le_of_ble_eq_true rfl⟩) hS (fun q _ h => XA.le hS.1 q h) (XA.le hS.1) (fun r80 x t H locs ht hvm hw hB _ _ hS => ?_)
        have hP := xB.at ht hB
        clear hB ht hvm
        obtain ⟨st81, sl82, so83⟩ := x
        obtain ⟨hGst81, hLGst81, hOst81, hw⟩ := hw
        dsimp only at hGst81 hLGst81 hOst81 hw
        replace hOst81 := hOst81.symm
        subst hOst81
        have hP : va_P (dC, dI) vwCl (xw A C nb st81 sl82 so55) _ := hP
        have hG : XG [2, 4, 5, 13, 14] st st81 := hG.tr hGst81 (by decide)
        clear hw
        have hni : NI st sl st81 sl82 := hni.mg hGst81 (by decide) (by decide) hLGst81
        refine lv_istore_n (lv' := [(3, .int r80), (2, .ref (A (36 + 20 * 0))), (0, .ref (A 0)), (1, .int 1)]) hx hb dX11_book_126 rfl hl (by decide) rfl (fun ls hl => ?_)
        refine lv_aload_n hx hb dX11_book_127 rfl (lv_at hl 2 rfl) ?_
        refine va_get (D := (dC, dI)) (ci := 10) (v := .ref (A 17)) (C := RX11) (T := TX11) (N := 19) hx hb hts ii_X11_book_X11 hown hK hP 0 (xw_is (r := 0) (by omega) (xc_fix (r := 0) (by omega))) rfl 13 (by decide) (hts _ mm_X11_book_8) (fun _ hh => hh) rfl dX11_book_128 ?_
        refine lv_iconst (v := 0) hx hb dX11_book_131 (by decide) ?_
        refine lv_aload_n hx hb dX11_book_132 rfl (lv_at hl 2 rfl) ?_
        refine va_get (D := (dC, dI)) (ci := 10) (v := .ref (A 4)) (C := RX11) (T := TX11) (N := 19) hx hb hts ii_X11_book_X11 hown hK hP 0 (xw_is (r := 0) (by omega) (xc_fix (r := 0) (by omega))) rfl 4 (by decide) (hts _ mm_X11_book_2) (fun _ hh => hh) rfl dX11_book_133 ?_
        refine va_getN (host := "OffTheLead") (D := (dC, dI)) (ci := 1) (v := .int (st81 4 6)) (C := RX0) (T := TX0) (N := 7) hx hb hts ii_X11_book_X0 hown hK hP 4 (xw_is (r := 4) (by omega) (xc_fix (r := 4) (by omega))) rfl 6 (by decide) (va_Nw.use rfl (nf_X11_354 hEv)) (fun _ hh => hh) rfl dX11_book_136 ?_
        obtain ⟨z84, ez84⟩ : ∃ y : Int32, st81 4 6 = y := ⟨_, rfl⟩
        refine zz_top (v := z84) (by exact ez84) ?_
        refine va_iast hx hb hK hP (xD hN _ _ _ _ _ _) hS 17 17 (xw_is (r := 17) (by omega) (xc_fix (r := 17) (by omega))) (xt_is (r := 17) (by omega) rfl) (i := 0) (zz_in (by decide)) dX11_book_139 (fun H locs hP _ hS => ?_)
        have hP : va_P (dC, dI) vwCl (xw A C nb (up2 st81 17 0 z84) sl82 so55) H := by rw [← xset (r := 17) (k := 0) (v := z84) (xc_fix (r := 17) (by omega))]; exact hP
        obtain ⟨st85, est85⟩ : ∃ y, y = up2 st81 17 0 z84 := ⟨_, rfl⟩
        have hG : XG [2, 4, 5, 13, 14] st st85 := by rw [est85]; exact hG.up (xz (r := 17) (k := 0) (by decide : xrg 17 0 = 0)) (xpn (c := 0) (by decide : xcl 17 0 = 0) (by decide))
        rw [← est85] at hP
        have hni : NI st sl st85 sl82 := by rw [est85]; exact hni.up (fun q9 a9 h9 => by omega) (by omega)
        refine lv_aload_n hx hb dX11_book_140 rfl (lv_at hl 2 rfl) ?_
        refine va_get (D := (dC, dI)) (ci := 10) (v := .ref (A 17)) (C := RX11) (T := TX11) (N := 19) hx hb hts ii_X11_book_X11 hown hK hP 0 (xw_is (r := 0) (by omega) (xc_fix (r := 0) (by omega))) rfl 13 (by decide) (hts _ mm_X11_book_8) (fun _ hh => hh) rfl dX11_book_141 ?_
        refine lv_iconst (v := 1) hx hb dX11_book_144 (by decide) ?_
        refine lv_iload_n hx hb dX11_book_145 rfl (lv_at hl 0 rfl) ?_
        refine va_iast hx hb hK hP (xD hN _ _ _ _ _ _) hS 17 17 (xw_is (r := 17) (by omega) (xc_fix (r := 17) (by omega))) (xt_is (r := 17) (by omega) rfl) (i := 1) (zz_in (by decide)) dX11_book_146 (fun H locs hP _ hS => ?_)
        have hP : va_P (dC, dI) vwCl (xw A C nb (up2 st85 17 1 r80) sl82 so55) H := by rw [← xset (r := 17) (k := 1) (v := r80) (xc_fix (r := 17) (by omega))]; exact hP
        obtain ⟨st86, est86⟩ : ∃ y, y = up2 st85 17 1 r80 := ⟨_, rfl⟩
        have hG : XG [2, 4, 5, 13, 14] st st86 := by rw [est86]; exact hG.up (xz (r := 17) (k := 1) (by decide : xrg 17 1 = 0)) (xpn (c := 0) (by decide : xcl 17 1 = 0) (by decide))
        rw [← est86] at hP
        have hni : NI st sl st86 sl82 := by rw [est86]; exact hni.up (fun q9 a9 h9 => by omega) (by omega)
        refine lv_aload_n hx hb dX11_book_147 rfl (lv_at hl 2 rfl) ?_
        refine va_get (D := (dC, dI)) (ci := 10) (v := .ref (A 17)) (C := RX11) (T := TX11) (N := 19) hx hb hts ii_X11_book_X11 hown hK hP 0 (xw_is (r := 0) (by omega) (xc_fix (r := 0) (by omega))) rfl 13 (by decide) (hts _ mm_X11_book_8) (fun _ hh => hh) rfl dX11_book_148 ?_
        refine lv_iconst (v := 2) hx hb dX11_book_151 (by decide) ?_
        refine lv_aload_n hx hb dX11_book_152 rfl (lv_at hl 1 rfl) ?_
        refine va_getN (host := "OffTheLead") (D := (dC, dI)) (ci := 5) (v := .int (st86 (36 + 20 * 0) 9)) (C := RX4) (T := TX4) (N := 12) hx hb hts ii_X11_book_X4 hown hK hP (36 + 20 * 0) (xw_is (r := (36 + 20 * 0)) (by omega) (xc_pk (i := 0) (o := 0) (by omega) (by omega))) rfl 9 (by decide) (va_Nw.use rfl (nf_X11_212 hEv)) (fun _ hh => hh) rfl dX11_book_153 ?_
        obtain ⟨z87, ez87⟩ : ∃ y : Int32, st86 (36 + 20 * 0) 9 = y := ⟨_, rfl⟩
        refine zz_top (v := z87) (by exact ez87) ?_
        refine va_iast hx hb hK hP (xD hN _ _ _ _ _ _) hS 17 17 (xw_is (r := 17) (by omega) (xc_fix (r := 17) (by omega))) (xt_is (r := 17) (by omega) rfl) (i := 2) (zz_in (by decide)) dX11_book_156 (fun H locs hP _ hS => ?_)
        have hP : va_P (dC, dI) vwCl (xw A C nb (up2 st86 17 2 z87) sl82 so55) H := by rw [← xset (r := 17) (k := 2) (v := z87) (xc_fix (r := 17) (by omega))]; exact hP
        obtain ⟨st88, est88⟩ : ∃ y, y = up2 st86 17 2 z87 := ⟨_, rfl⟩
        have hG : XG [2, 4, 5, 13, 14] st st88 := by rw [est88]; exact hG.up (xz (r := 17) (k := 2) (by decide : xrg 17 2 = 0)) (xpn (c := 0) (by decide : xcl 17 2 = 0) (by decide))
        rw [← est88] at hP
        have hni : NI st sl st88 sl82 := by rw [est88]; exact hni.up (fun q9 a9 h9 => by omega) (by omega)
        refine lv_aload_n hx hb dX11_book_157 rfl (lv_at hl 2 rfl) ?_
        refine va_get (D := (dC, dI)) (ci := 10) (v := .ref (A 17)) (C := RX11) (T := TX11) (N := 19) hx hb hts ii_X11_book_X11 hown hK hP 0 (xw_is (r := 0) (by omega) (xc_fix (r := 0) (by omega))) rfl 13 (by decide) (hts _ mm_X11_book_8) (fun _ hh => hh) rfl dX11_book_158 ?_
        refine lv_iconst (v := 3) hx hb dX11_book_161 (by decide) ?_
        refine lv_aload_n hx hb dX11_book_162 rfl (lv_at hl 1 rfl) ?_
        refine va_calli (va_runV (As := []) (rest := [.int 3, .ref (A 17)]) ⟨hx, hb, hml, hown, hts⟩ (x_X4_awayBits l dC dI ad E hEE A C nb _ hN st88 sl82 so55 0 (by omega) hG.1) (cwV 0 hts gX11_book_X4_awayBits rfl rfl rfl (by decide +kernel) ⟨Nat.le_of_ble_eq_true rfl, Nat.le_of_ble_eq_true rfl⟩) ⟨fun a U g mk q => ⟨q.1, xPre.blind hEE q.2⟩, va_recv hK hP (ci := 5) (q0 := (36 + 20 * 0)) rfl (xw_is (r := (36 + 20 * 0)) (by omega) (xc_pk (i := 0) (o := 0) (by omega) (by omega))), fun U hU hW => ⟨rfl, xPre.of hEE hP hK hE hS hU hW⟩⟩ rfl rfl hl.1 rfl (lv_room (Nat.le_of_ble_eq_true rfl)) dX11_book_163 ⟨Nat.le_of_ble_eq_true rfl, Nat.le_of_ble_eq_true rfl⟩) hS (fun q _ h => XA.le hS.1 q h) (XA.le hS.1) (fun r89 x t H locs ht hvm hw hB _ _ hS => ?_)
        have hP := xB.at ht hB
        clear hB ht hvm
        obtain ⟨rfl, hw⟩ := hw
        have hP : va_P (dC, dI) vwCl (xw A C nb st88 sl82 so55) _ := hP
        clear hw
        refine va_iast hx hb hK hP (xD hN _ _ _ _ _ _) hS 17 17 (xw_is (r := 17) (by omega) (xc_fix (r := 17) (by omega))) (xt_is (r := 17) (by omega) rfl) (i := 3) (zz_in (by decide)) dX11_book_166 (fun H locs hP _ hS => ?_)
        have hP : va_P (dC, dI) vwCl (xw A C nb (up2 st88 17 3 r89) sl82 so55) H := by rw [← xset (r := 17) (k := 3) (v := r89) (xc_fix (r := 17) (by omega))]; exact hP
        obtain ⟨st90, est90⟩ : ∃ y, y = up2 st88 17 3 r89 := ⟨_, rfl⟩
        have hG : XG [2, 4, 5, 13, 14] st st90 := by rw [est90]; exact hG.up (xz (r := 17) (k := 3) (by decide : xrg 17 3 = 0)) (xpn (c := 0) (by decide : xcl 17 3 = 0) (by decide))
        rw [← est90] at hP
        have hni : NI st sl st90 sl82 := by rw [est90]; exact hni.up (fun q9 a9 h9 => by omega) (by omega)
        refine lv_aload_n hx hb dX11_book_167 rfl (lv_at hl 2 rfl) ?_
        refine va_get (D := (dC, dI)) (ci := 10) (v := .ref (A 4)) (C := RX11) (T := TX11) (N := 19) hx hb hts ii_X11_book_X11 hown hK hP 0 (xw_is (r := 0) (by omega) (xc_fix (r := 0) (by omega))) rfl 4 (by decide) (hts _ mm_X11_book_2) (fun _ hh => hh) rfl dX11_book_168 ?_
        refine va_getN (host := "OffTheLead") (D := (dC, dI)) (ci := 1) (v := .int (st90 4 6)) (C := RX0) (T := TX0) (N := 7) hx hb hts ii_X11_book_X0 hown hK hP 4 (xw_is (r := 4) (by omega) (xc_fix (r := 4) (by omega))) rfl 6 (by decide) (va_Nw.use rfl (nf_X11_354 hEv)) (fun _ hh => hh) rfl dX11_book_171 ?_
        refine zz_top (v := z84) (by show st90 4 6 = _; rw [est90, up2_ne (r := 17) (k := 3) (a := 4) (j := 6) _ _ (by omega), est88, up2_ne (r := 17) (k := 2) (a := 4) (j := 6) _ _ (by omega), est86, up2_ne (r := 17) (k := 1) (a := 4) (j := 6) _ _ (by omega), est85, up2_ne (r := 17) (k := 0) (a := 4) (j := 6) _ _ (by omega), ez84]) ?_
        refine lv_if_ne (tgt := 181) hx hb dX11_book_174 (by decide) (fun c10 => ?_) (fun c10 => ?_)
        · refine lv_iload_n hx hb dX11_book_181 rfl (lv_at hl 0 rfl) ?_
          exact W.iret (v := r80) hx hb hr (fun t ht hW => ⟨⟨r80, (st90, sl82, so55), rfl, ⟨hG, hO, Or.inl ⟨by show st90 1 1 = 0; rw [est90, up2_ne (r := 17) (k := 3) (a := 1) (j := 1) _ _ (by omega), est88, up2_ne (r := 17) (k := 2) (a := 1) (j := 1) _ _ (by omega), est86, up2_ne (r := 17) (k := 1) (a := 1) (j := 1) _ _ (by omega), est85, up2_ne (r := 17) (k := 0) (a := 1) (j := 1) _ _ (by omega), hGst81.2 1 1 (by rw [(by decide : xcl 1 1 = 1)]; decide), hGst76.2 1 1 (by rw [(by decide : xcl 1 1 = 1)]; decide), hGst70.2 1 1 (by rw [(by decide : xcl 1 1 = 1)]; decide), hf65], Or.inr c6, hni, by show st90 0 16 = _; rw [est90, up2_ne (r := 17) (k := 3) (a := 0) (j := 16) _ _ (by omega), est88, up2_ne (r := 17) (k := 2) (a := 0) (j := 16) _ _ (by omega), est86, up2_ne (r := 17) (k := 1) (a := 0) (j := 16) _ _ (by omega), est85, up2_ne (r := 17) (k := 0) (a := 0) (j := 16) _ _ (by omega), hGst81.2 0 16 (by rw [(by decide : xcl 0 16 = 12)]; decide), hGst76.2 0 16 (by rw [(by decide : xcl 0 16 = 12)]; decide), hGst70.2 0 16 (by rw [(by decide : xcl 0 16 = 12)]; decide)]; exact h16⟩⟩, xB.of ht hP⟩, hS.F ht⟩) hS.2.2 dX11_book_182
        · refine lv_iconst (v := (-1)) hx hb dX11_book_177 (by decide) ?_
          refine lv_goto (tgt := 182) hx hb dX11_book_178 (by decide) ?_
          exact W.iret (v := (-1)) hx hb hr (fun t ht hW => ⟨⟨(-1), (st90, sl82, so55), rfl, ⟨hG, hO, Or.inl ⟨by show st90 1 1 = 0; rw [est90, up2_ne (r := 17) (k := 3) (a := 1) (j := 1) _ _ (by omega), est88, up2_ne (r := 17) (k := 2) (a := 1) (j := 1) _ _ (by omega), est86, up2_ne (r := 17) (k := 1) (a := 1) (j := 1) _ _ (by omega), est85, up2_ne (r := 17) (k := 0) (a := 1) (j := 1) _ _ (by omega), hGst81.2 1 1 (by rw [(by decide : xcl 1 1 = 1)]; decide), hGst76.2 1 1 (by rw [(by decide : xcl 1 1 = 1)]; decide), hGst70.2 1 1 (by rw [(by decide : xcl 1 1 = 1)]; decide), hf65], Or.inr c6, hni, by show st90 0 16 = _; rw [est90, up2_ne (r := 17) (k := 3) (a := 0) (j := 16) _ _ (by omega), est88, up2_ne (r := 17) (k := 2) (a := 0) (j := 16) _ _ (by omega), est86, up2_ne (r := 17) (k := 1) (a := 0) (j := 16) _ _ (by omega), est85, up2_ne (r := 17) (k := 0) (a := 0) (j := 16) _ _ (by omega), hGst81.2 0 16 (by rw [(by decide : xcl 0 16 = 12)]; decide), hGst76.2 0 16 (by rw [(by decide : xcl 0 16 = 12)]; decide), hGst70.2 0 16 (by rw [(by decide : xcl 0 16 = 12)]; decide)]; exact h16⟩⟩, xB.of ht hP⟩, hS.F ht⟩) hS.2.2 dX11_book_182
      · refine lv_bipush (v := (-2)) hx hb dX11_book_49 (by decide) ?_
        refine lv_aload_n hx hb dX11_book_51 rfl (lv_at hl 0 rfl) ?_
        refine va_get (D := (dC, dI)) (ci := 10) (v := .ref (A 1)) (C := RX11) (T := TX11) (N := 19) hx hb hts ii_X11_book_X11 hown hK hP 0 (xw_is (r := 0) (by omega) (xc_fix (r := 0) (by omega))) rfl 0 (by decide) (hts _ mm_X11_book_1) (fun _ hh => hh) rfl dX11_book_52 ?_
        refine va_getN (host := "OffTheLead") (D := (dC, dI)) (ci := 9) (v := .int (st62 1 14)) (C := RX8) (T := TX8) (N := 15) hx hb hts ii_X11_book_X8 hown hK hP 1 (xw_is (r := 1) (by omega) (xc_fix (r := 1) (by omega))) rfl 14 (by decide) (va_Nw.use rfl (nf_X11_120 hEv)) (fun _ hh => hh) rfl dX11_book_55 ?_
        obtain ⟨z91, ez91⟩ : ∃ y : Int32, st62 1 14 = y := ⟨_, rfl⟩
        refine zz_top (v := z91) (by exact ez91) ?_
        refine lv_isub hx hb dX11_book_58 ?_
        refine lv_topi (fun z92 ez92 => ?_)
        clear ez92
        exact W.iret (v := z92) hx hb hr (fun t ht hW => ⟨⟨z92, (st62, sl63, so55), rfl, ⟨hG, hO, Or.inl ⟨by show st62 1 1 = 0; rw [hf65], Or.inr c6, hni, by show st62 0 16 = _; exact h16⟩⟩, xB.of ht hP⟩, hS.F ht⟩) hS.2.2 dX11_book_59
    · refine lv_sipush (v := (-1000)) hx hb dX11_book_9 (by decide) ?_
      exact W.iret (v := (-1000)) hx hb hr (fun t ht hW => ⟨⟨(-1000), (st, sl, so), rfl, ⟨hG, hO, Or.inr ⟨rfl, (fun h9 => h9.elim c1 c6), hni, rfl⟩⟩, xB.of ht hP⟩, hS.F ht⟩) hS.2.2 dX11_book_12
