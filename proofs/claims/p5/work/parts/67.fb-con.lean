set_option maxHeartbeats 4000000 in
set_option maxRecDepth 100000 in
theorem y_X0_readAct (l : Launch) (dC : Nat → ClassId) (dI : Nat → Nat → Nat) (ad : Nat → Nat) (E : EP) (hEE : EC ad E) (A : Nat → Nat) (C : Nat → ClassId) (nb sz : Nat) (hN : XN A) (st : Nat → Nat → Int32) (sl : Nat → Nat → Int64) (so : Nat → XR) (B : Nat → Nat) (g m : Nat) (p : Nat) (c : Nat → Nat) (nm : Nat → Nat → Nat) (gl : Nat) (hI : XI st) (hOI : OI ad so) (hB : CBt B g m st) (hT : TC B g m p ad st sl so) (hR : CN c nm st sl 0) (h5 : st 4 5 = nI gl) (hgl : gl < 40) (hmy : bMy B g m c nm p) : Met l yX0_readAct wsX0_readAct ({ frames := 7, cells := 0, slots := 0, locals := 152 }) (va_Pc [.ref (A 4), .ref (A 1), .ref (A (36 + 20 * 0))] (xPre E dC dI A C nb sz st sl so)) (va_Qr (fun (_ : XT) => True) (fun (x : XT) (r : Nat) (t : State) => (XG [1, 2, 4, 5, 7, 8, 9, 12, 13, 14, 15] st x.1 ∧ OG ad [3, 4] so x.2.2 ∧ FX 6 st sl so x.1 x.2.1 x.2.2 ∧ ((r = ad (tkw B g m p) ∧ ¬ tkw B g m p = 24 ∧ TC B g m (tkx B g m p) ad x.1 x.2.1 x.2.2 ∧ x.1 1 13 = st 1 13 ∧ x.1 4 5 = st 4 5) ∨ (r = ad (tkw B g m (tkx B g m p)) ∧ tkw B g m p = 24 ∧ knw (nm 2) (tkc B g p) (c 2) = true ∧ (tkw B g m (tkx B g m p) = 9 ∨ tkw B g m (tkx B g m p) = 10) ∧ TC B g m (tkx B g m (tkx B g m p)) ad x.1 x.2.1 x.2.2 ∧ x.1 1 13 = st 1 13 ∧ x.1 4 5 = st 4 5) ∨ (r = ad (tkw B g m (tkx B g m p)) ∧ tkw B g m p = 24 ∧ knw (nm 2) (tkc B g p) (c 2) = false ∧ tkw B g m (tkx B g m p) = 11 ∧ TC B g m (tkx B g m (tkx B g m p)) ad x.1 x.2.1 x.2.2 ∧ x.1 1 13 = st 1 13 ∧ x.1 4 5 = st 4 5) ∨ (r = ad 25 ∧ x.1 1 13 = nI 1 ∧ x.1 1 14 = nI (tka B g m (tkx B g m p)) ∧ tkw B g m p = 24 ∧ x.1 4 5 = st 4 5 ∧ ((knw (nm 2) (tkc B g p) (c 2) = true ∧ ¬ (tkw B g m (tkx B g m p) = 9 ∨ tkw B g m (tkx B g m p) = 10)) ∨ (knw (nm 2) (tkc B g p) (c 2) = false ∧ ¬ tkw B g m (tkx B g m p) = 11))))) ∧ xB dC dI A C nb x t) (XA A sz)) 0 0 (XA A sz) := by
  refine Met.ofW (cc := cX0_readAct) (maxL := 6) (ret := (some (.object "OffTheLead$Word"))) (by decide) rfl ?_
  intro p9 e s m9 args below meth c9 s₁ B9 hml hv
  obtain ⟨rfl, hsz, hP, hK, hE⟩ := hv
  have hx := B9.exec
  have hb := B9.bytes
  have hr := B9.returns
  have hts := atoms_spec (ws := wsX0_readAct) B9.pre
  have hown : s.vm.findClass RX0 = some m9.cls := findClass_of_methodNamed B9.named
  subst hsz
  have hEv := hEE.1 _ _ _ hE
  have hS : va_S (XA A s.heap.size) s.heap s.heap [] := va_S.rf
  have hG : XG [1, 2, 4, 5, 7, 8, 9, 12, 13, 14, 15] st st := XG.rf hI
  have hO : OG ad [3, 4] so so := OG.rf hOI
  have hl := lv_entry ([.ref (A 4), .ref (A 1), .ref (A (36 + 20 * 0))]) (n := 6) (Nat.le_of_ble_eq_true rfl)
  rw [lg_entry_eq]
  generalize (lg_sl ([.ref (A 4), .ref (A 1), .ref (A (36 + 20 * 0))]) ++ List.replicate (6 - (lg_sl ([.ref (A 4), .ref (A 1), .ref (A (36 + 20 * 0))])).length) Slot.unset).toArray = ls at hl ⊢
  have hl : lv_has ls 6 [(0, .ref (A 4)), (1, .ref (A 1)), (2, .ref (A (36 + 20 * 0)))] := hl
  have hB1 := hB.2.2.1
  have hB2 := hB.2.2.2.1
  have hF : FX 6 st sl so st sl so := FX.rf
  have hp9 := hT.2.2.2.2.2.2
  have hk1 := tkd_lt (B := B) (g := g) (m := m) (p := p)
  have hk2 := tkx_le (B := B) (g := g) (m := m) (p := p) hp9
  have hk3 := tka_le (B := B) (g := g) (m := m) (p := p) hp9 hB.2.2.1
  have hk4 := tkv_ltc (p := p) hB hp9
  have hk5 := tkw_lt (B := B) (g := g) (m := m) (p := p)
  have hR9 := hR.2.1
  have hT0 := hT
  have hR0 := hR
  have hw25 := @tkw_d B g m p
  refine lv_aload_n hx hb dX0_readAct_0 rfl (lv_at hl 1 rfl) ?_
  refine va_getN (host := "OffTheLead") (D := (dC, dI)) (ci := 9) (v := va_rf (so 1 7)) (C := RX8) (T := TX8) (N := 15) hx hb hts ii_X0_readAct_X8 hown hK hP 1 (xw_is (r := 1) (by omega) (xc_fix (r := 1) (by omega))) rfl 7 (by decide) (va_Nw.use rfl (nf_X0_50 hEv)) (fun _ hh => hh) rfl dX0_readAct_1 ?_
  refine zz_topq (r := some (ad (tkw B g m p))) (by rw [hT.2.2.2.2.2.1]) ?_
  refine lv_astore_n (lv' := [(3, .ref (ad (tkw B g m p))), (0, .ref (A 4)), (1, .ref (A 1)), (2, .ref (A (36 + 20 * 0)))]) hx hb dX0_readAct_4 rfl hl (by decide) rfl (fun ls hl => ?_)
  refine lv_aload_n hx hb dX0_readAct_5 rfl (lv_at hl 0 rfl) ?_
  refine va_gets (v := .ref (ad 24)) hx hb (EV.word hEv (i := 24) (by decide)) hS hown (hts _ mm_X0_readAct_1) (fun _ hh => hh) dX0_readAct_6 ?_
  refine lv_acmp_eq (rx := (some (ad (tkw B g m p)))) (ry := (some (ad 24))) (tgt := 18) hx hb dX0_readAct_9 (by decide) (fun c1 => ?_) (fun c1 => ?_)
  · have c1 : (tkw B g m p) = 24 := (EV.eqw hEv (i := (tkw B g m p)) (j := 24) (by omega) (by omega)).mp c1
    refine lv_aload_n hx hb dX0_readAct_18 rfl (lv_at hl 3 rfl) ?_
    refine lv_iconst (v := 2) hx hb dX0_readAct_19 (by decide) ?_
    refine lv_aload_n hx hb dX0_readAct_20 rfl (lv_at hl 2 rfl) ?_
    refine va_getN (host := "OffTheLead") (D := (dC, dI)) (ci := 9) (v := .long (sl 1 8)) (C := RX8) (T := TX8) (N := 15) hx hb hts ii_X0_readAct_X8 hown hK hP 1 (xw_is (r := 1) (by omega) (xc_fix (r := 1) (by omega))) rfl 8 (by decide) (va_Nw.use rfl (nf_X0_57 hEv)) (fun _ hh => hh) rfl dX0_readAct_21 ?_
    refine lv_topl (fun z1 ez1 => ?_)
    refine va_calli (va_runV (As := [.int 2, .long z1]) (rest := []) ⟨hx, hb, hml, hown, hts⟩ (y_numberOm2 l dC dI ad E hEE A C nb _ hN st sl so z1 c nm hG.1 hR) (cwV 2 hts gX0_readAct_X4_numberOf rfl rfl rfl (by decide +kernel) ⟨Nat.le_of_ble_eq_true rfl, Nat.le_of_ble_eq_true rfl⟩) ⟨fun a U g mk q => ⟨q.1, xPre.blind hEE q.2⟩, va_recv hK hP (ci := 5) (q0 := (36 + 20 * 0)) rfl (xw_is (r := (36 + 20 * 0)) (by omega) (xc_pk (i := 0) (o := 0) (by omega) (by omega))), fun U hU hW => ⟨rfl, xPre.of hEE hP hK hE hS hU hW⟩⟩ rfl rfl hl.1 rfl (lv_room (Nat.le_of_ble_eq_true rfl)) dX0_readAct_24 ⟨Nat.le_of_ble_eq_true rfl, Nat.le_of_ble_eq_true rfl⟩) hS (fun q _ h => XA.le hS.1 q h) (XA.le hS.1) (fun r2 x t H locs ht hvm hw hB9 _ _ hS => ?_)
    have hP := xB.at ht hB9
    clear hB9 ht hvm
    obtain ⟨rfl, hw⟩ := hw
    have hP : va_P (dC, dI) vwCl (xw A C nb st sl so) _ := hP
    rcases hw with ⟨rfl, hf3⟩ | ⟨n4, rfl, hf5, hf6⟩
    · refine lv_iconst (v := (-1)) hx hb dX0_readAct_27 (by decide) ?_
      refine lv_icmp_eq (tgt := 35) hx hb dX0_readAct_28 (by decide) (fun _ => ?_) (fun cc => absurd (by decide) cc)
      refine lv_iconst (v := 1) hx hb dX0_readAct_35 (by decide) ?_
      refine lv_istore (lv' := [(4, .int 1), (3, .ref (ad (tkw B g m p))), (0, .ref (A 4)), (1, .ref (A 1)), (2, .ref (A (36 + 20 * 0)))]) hx hb dX0_readAct_36 hl (by decide) rfl (fun ls hl => ?_)
      refine lv_aload_n hx hb dX0_readAct_38 rfl (lv_at hl 3 rfl) ?_
      refine lv_aload_n hx hb dX0_readAct_39 rfl (lv_at hl 4 rfl) ?_
      refine lv_iload hx hb dX0_readAct_40 (lv_at hl 0 rfl) ?_
      refine va_calli (va_runV (As := [.ref (A (36 + 20 * 0)), .int 1]) (rest := []) ⟨hx, hb, hml, hown, hts⟩ (y_takeNamem1 l dC dI ad E hEE A C nb _ hN st sl so B g m p c nm hG.1 hO.1 (CBt.fr hB hF) hT hR) (cwV 2 hts gX0_readAct_X8_takeNamed rfl rfl rfl (by decide +kernel) ⟨Nat.le_of_ble_eq_true rfl, Nat.le_of_ble_eq_true rfl⟩) ⟨fun a U g mk q => ⟨q.1, xPre.blind hEE q.2⟩, va_recv hK hP (ci := 9) (q0 := 1) rfl (xw_is (r := 1) (by omega) (xc_fix (r := 1) (by omega))), fun U hU hW => ⟨rfl, xPre.of hEE hP hK hE hS hU hW⟩⟩ rfl rfl hl.1 rfl (lv_room (Nat.le_of_ble_eq_true rfl)) dX0_readAct_42 ⟨Nat.le_of_ble_eq_true rfl, Nat.le_of_ble_eq_true rfl⟩) hS (fun q _ h => XA.le hS.1 q h) (XA.le hS.1) (fun r7 x t H locs ht hvm hw hB9 _ _ hS => ?_)
      have hP := xB.at ht hB9
      clear hB9 ht hvm
      obtain ⟨st8, sl9, so10⟩ := x
      obtain ⟨hGst8, hOst8, hFst8, hw⟩ := hw
      dsimp only at hGst8 hOst8 hFst8 hw
      have hO : OG ad [3, 4] so so10 := hO.tr hOst8 (by decide)
      have hP : va_P (dC, dI) vwCl (xw A C nb st8 sl9 so10) _ := hP
      have hG : XG [1, 2, 4, 5, 7, 8, 9, 12, 13, 14, 15] st st8 := hG.tr hGst8 (by decide)
      have hF : FX 6 st sl so st8 sl9 so10 := hF.tr hFst8 (by omega) (by omega)
      have hR : CN c nm st8 sl9 0 := hR.fr0 hFst8
      rcases hw with ⟨n11, rfl, hf12, hf13, hT, hf14, hf15⟩ | ⟨n16, n17, rfl, hf18, hf19, hf20, hf21⟩
      · have hp9 := hT.2.2.2.2.2.2
        have hk1 := tkd_lt (B := B) (g := g) (m := m) (p := (tkx B g m p))
        have hk2 := tkx_le (B := B) (g := g) (m := m) (p := (tkx B g m p)) hp9
        have hk3 := tka_le (B := B) (g := g) (m := m) (p := (tkx B g m p)) hp9 hB.2.2.1
        have hk4 := tkv_ltc (p := (tkx B g m p)) hB hp9
        have hk5 := tkw_lt (B := B) (g := g) (m := m) (p := (tkx B g m p))
        refine lv_if_ne (tgt := 52) hx hb dX0_readAct_45 (by decide) (fun _ => ?_) (fun cc => absurd cc (by decide))
        refine lv_aload_n hx hb dX0_readAct_52 rfl (lv_at hl 2 rfl) ?_
        refine va_get (D := (dC, dI)) (ci := 1) (v := .ref (A 6)) (C := RX0) (T := TX0) (N := 7) hx hb hts ii_X0_readAct_X0 hown hK hP 4 (xw_is (r := 4) (by omega) (xc_fix (r := 4) (by omega))) rfl 1 (by decide) (hts _ mm_X0_readAct_3) (fun _ hh => hh) rfl dX0_readAct_53 ?_
        refine lv_aload_n hx hb dX0_readAct_56 rfl (lv_at hl 2 rfl) ?_
        refine va_get (D := (dC, dI)) (ci := 1) (v := .int (st8 4 5)) (C := RX0) (T := TX0) (N := 7) hx hb hts ii_X0_readAct_X0 hown hK hP 4 (xw_is (r := 4) (by omega) (xc_fix (r := 4) (by omega))) rfl 5 (by decide) (hts _ mm_X0_readAct_4) (fun _ hh => hh) rfl dX0_readAct_57 ?_
        refine zz_top (v := (nI gl)) (by show st8 4 5 = _; rw [(hFst8 4 5 (by decide)).1, h5]) ?_
        refine lv_aload_n hx hb dX0_readAct_60 rfl (lv_at hl 3 rfl) ?_
        refine va_getN (host := "OffTheLead") (D := (dC, dI)) (ci := 9) (v := .int (st8 1 9)) (C := RX8) (T := TX8) (N := 15) hx hb hts ii_X0_readAct_X8 hown hK hP 1 (xw_is (r := 1) (by omega) (xc_fix (r := 1) (by omega))) rfl 9 (by decide) (va_Nw.use rfl (nf_X0_102 hEv)) (fun _ hh => hh) rfl dX0_readAct_61 ?_
        refine zz_top (v := (nI n11)) (by show st8 1 9 = _; rw [hf13]) ?_
        refine va_iast hx hb hK hP (xD hN _ _ _ _ _ _) hS 6 6 (xw_is (r := 6) (by omega) (xc_fix (r := 6) (by omega))) (xt_is (r := 6) (by omega) rfl) (i := (nI gl)) (vp_in_nI (by omega) (by decide)) dX0_readAct_64 (fun H locs hP _ hS => ?_)
        rw [nI_clamp (by omega)] at hP
        have hP : va_P (dC, dI) vwCl (xw A C nb (up2 st8 6 gl (nI n11)) sl9 so10) H := by rw [← xset (r := 6) (k := gl) (v := (nI n11)) (xc_fix (r := 6) (by omega))]; exact hP
        obtain ⟨st22, est22⟩ : ∃ y, y = up2 st8 6 gl (nI n11) := ⟨_, rfl⟩
        have hG : XG [1, 2, 4, 5, 7, 8, 9, 12, 13, 14, 15] st st22 := by rw [est22]; exact hG.up (xz (r := 6) (k := gl) (by unfold xrg; rfl : xrg 6 gl = 0)) (xpn (c := 3) (by unfold xcl; rfl : xcl 6 gl = 3) (by decide))
        rw [← est22] at hP
        have hF : FX 6 st sl so st22 sl9 so10 := by rw [est22]; exact hF.up (dc_bk (o := 6) (by omega))
        have hT : TC B g m (tkx B g m p) ad st22 sl9 so10 := by rw [est22]; exact hT.up (by omega)
        have hR : CN c nm st22 sl9 0 := by rw [est22]; exact hR.up (by omega)
        refine lv_aload_n hx hb dX0_readAct_65 rfl (lv_at hl 3 rfl) ?_
        refine va_getN (host := "OffTheLead") (D := (dC, dI)) (ci := 9) (v := va_rf (so10 1 7)) (C := RX8) (T := TX8) (N := 15) hx hb hts ii_X0_readAct_X8 hown hK hP 1 (xw_is (r := 1) (by omega) (xc_fix (r := 1) (by omega))) rfl 7 (by decide) (va_Nw.use rfl (nf_X0_50 hEv)) (fun _ hh => hh) rfl dX0_readAct_66 ?_
        refine zz_topq (r := some (ad (tkw B g m (tkx B g m p)))) (by rw [hT.2.2.2.2.2.1]) ?_
        refine lv_astore_n (lv' := [(3, .ref (ad (tkw B g m (tkx B g m p)))), (4, .int 1), (0, .ref (A 4)), (1, .ref (A 1)), (2, .ref (A (36 + 20 * 0)))]) hx hb dX0_readAct_69 rfl hl (by decide) rfl (fun ls hl => ?_)
        refine lv_iload hx hb dX0_readAct_70 (lv_at hl 1 rfl) ?_
        refine lv_iconst (v := 2) hx hb dX0_readAct_72 (by decide) ?_
        refine lv_icmp_ne (tgt := 98) hx hb dX0_readAct_73 (by decide) (fun _ => ?_) (fun cc => absurd cc (by decide))
        refine lv_aload_n hx hb dX0_readAct_98 rfl (lv_at hl 0 rfl) ?_
        refine va_gets (v := .ref (ad 11)) hx hb (EV.word hEv (i := 11) (by decide)) hS hown (hts _ mm_X0_readAct_7) (fun _ hh => hh) dX0_readAct_99 ?_
        refine lv_acmp_ne (rx := (some (ad (tkw B g m (tkx B g m p))))) (ry := (some (ad 11))) (tgt := 109) hx hb dX0_readAct_102 (by decide) (fun c5 => ?_) (fun c5 => ?_)
        · have c5 : ¬ (tkw B g m (tkx B g m p)) = 11 := fun hh => c5 ((EV.eqw hEv (i := (tkw B g m (tkx B g m p))) (j := 11) (by omega) (by omega)).mpr hh)
          refine lv_iconst (v := 0) hx hb dX0_readAct_109 (by decide) ?_
          refine lv_istore (lv' := [(5, .int 0), (3, .ref (ad (tkw B g m (tkx B g m p)))), (4, .int 1), (0, .ref (A 4)), (1, .ref (A 1)), (2, .ref (A (36 + 20 * 0)))]) hx hb dX0_readAct_110 hl (by decide) rfl (fun ls hl => ?_)
          refine lv_iload hx hb dX0_readAct_112 (lv_at hl 0 rfl) ?_
          refine lv_if_ne (tgt := 127) hx hb dX0_readAct_114 (by decide) (fun cc => absurd (by decide) cc) (fun _ => ?_)
          refine lv_aload_n hx hb dX0_readAct_117 rfl (lv_at hl 4 rfl) ?_
          refine lv_iconst (v := 1) hx hb dX0_readAct_118 (by decide) ?_
          refine va_calli (va_runV (As := [.int 1]) (rest := []) ⟨hx, hb, hml, hown, hts⟩ (y_X8_refuse l dC dI ad E hEE A C nb _ hN st22 sl9 so10 1 B g m (tkx B g m p) (by omega) hG.1 hO.1 (CBt.fr hB hF) hT) (cwV 1 hts gX0_readAct_X8_refuse rfl rfl rfl (by decide +kernel) ⟨Nat.le_of_ble_eq_true rfl, Nat.le_of_ble_eq_true rfl⟩) ⟨fun a U g mk q => ⟨q.1, xPre.blind hEE q.2⟩, va_recv hK hP (ci := 9) (q0 := 1) rfl (xw_is (r := 1) (by omega) (xc_fix (r := 1) (by omega))), fun U hU hW => ⟨rfl, xPre.of hEE hP hK hE hS hU hW⟩⟩ rfl rfl hl.1 rfl (lv_room (Nat.le_of_ble_eq_true rfl)) dX0_readAct_119 ⟨Nat.le_of_ble_eq_true rfl, Nat.le_of_ble_eq_true rfl⟩) hS (fun q _ h => XA.le hS.1 q h) (XA.le hS.1) (fun r23 x t H locs ht hvm hw hB9 _ _ hS => ?_)
          have hP := xB.at ht hB9
          clear hB9 ht hvm
          obtain ⟨st24, sl25, so26⟩ := x
          obtain ⟨hGst24, hOst24, hFst24, hw⟩ := hw
          dsimp only at hGst24 hOst24 hFst24 hw
          have hO : OG ad [3, 4] so so26 := hO.tr hOst24 (by decide)
          have hP : va_P (dC, dI) vwCl (xw A C nb st24 sl25 so26) _ := hP
          have hG : XG [1, 2, 4, 5, 7, 8, 9, 12, 13, 14, 15] st st24 := hG.tr hGst24 (by decide)
          have hF : FX 6 st sl so st24 sl25 so26 := hF.tr hFst24 (by omega) (by omega)
          have hR : CN c nm st24 sl25 0 := hR.fr0 hFst24
          obtain ⟨rfl, hf27, hf28, hT⟩ := hw
          have hp9 := hT.2.2.2.2.2.2
          have hk1 := tkd_lt (B := B) (g := g) (m := m) (p := (tkx B g m p))
          have hk2 := tkx_le (B := B) (g := g) (m := m) (p := (tkx B g m p)) hp9
          have hk3 := tka_le (B := B) (g := g) (m := m) (p := (tkx B g m p)) hp9 hB.2.2.1
          have hk4 := tkv_ltc (p := (tkx B g m p)) hB hp9
          have hk5 := tkw_lt (B := B) (g := g) (m := m) (p := (tkx B g m p))
          refine lv_pop hx hb dX0_readAct_122 rfl ?_
          refine va_gets (v := .ref (ad 25)) hx hb (EV.word hEv (i := 25) (by decide)) hS hown (hts _ mm_X0_readAct_2) (fun _ hh => hh) dX0_readAct_123 ?_
          exact W.aret (v := .ref (ad 25)) hx hb hr (Or.inl ⟨_, rfl⟩) (Or.inr ⟨_, rfl⟩) (fun t ht hW => ⟨⟨(st24, sl25, so26), (ad 25), rfl, trivial, ⟨hG, hO, hF, Or.inr (Or.inr (Or.inr (⟨rfl, by show st24 1 13 = _; rw [hf27], by show st24 1 14 = _; rw [hf28], by omega, by show st24 4 5 = st 4 5; rw [(hFst24 4 5 (by decide)).1, est22, up2_ne (r := 6) (k := gl) (a := 4) (j := 5) _ _ (by omega), (hFst8 4 5 (by decide)).1], Or.inr ⟨knw_f _ (hR0.nk2 (fun i hi => by rw [← (hT0.2.2.2.2.1 (by omega)), ← ez1]; exact hf3 i hi)), by omega⟩⟩)))⟩, xB.of ht hP⟩, hS.F ht⟩) hS.2.2 dX0_readAct_126
        · have c5 : (tkw B g m (tkx B g m p)) = 11 := (EV.eqw hEv (i := (tkw B g m (tkx B g m p))) (j := 11) (by omega) (by omega)).mp c5
          refine lv_iconst (v := 1) hx hb dX0_readAct_105 (by decide) ?_
          refine lv_goto (tgt := 110) hx hb dX0_readAct_106 (by decide) ?_
          refine lv_istore (lv' := [(5, .int 1), (3, .ref (ad (tkw B g m (tkx B g m p)))), (4, .int 1), (0, .ref (A 4)), (1, .ref (A 1)), (2, .ref (A (36 + 20 * 0)))]) hx hb dX0_readAct_110 hl (by decide) rfl (fun ls hl => ?_)
          refine lv_iload hx hb dX0_readAct_112 (lv_at hl 0 rfl) ?_
          refine lv_if_ne (tgt := 127) hx hb dX0_readAct_114 (by decide) (fun _ => ?_) (fun cc => absurd cc (by decide))
          refine lv_aload_n hx hb dX0_readAct_127 rfl (lv_at hl 4 rfl) ?_
          refine va_callv (va_runV (As := []) (rest := []) ⟨hx, hb, hml, hown, hts⟩ (y_X8_step l dC dI ad E hEE A C nb _ hN st22 sl9 so10 B g m (tkx B g m (tkx B g m p)) hG.1 hO.1 (CBt.fr hB hF) hT.1 hk2.2) (cwV 0 hts gX0_readAct_X8_step rfl rfl rfl (by decide +kernel) ⟨Nat.le_of_ble_eq_true rfl, Nat.le_of_ble_eq_true rfl⟩) ⟨fun a U g mk q => ⟨q.1, xPre.blind hEE q.2⟩, va_recv hK hP (ci := 9) (q0 := 1) rfl (xw_is (r := 1) (by omega) (xc_fix (r := 1) (by omega))), fun U hU hW => ⟨rfl, xPre.of hEE hP hK hE hS hU hW⟩⟩ rfl rfl hl.1 rfl (lv_room (Nat.le_of_ble_eq_true rfl)) dX0_readAct_128 ⟨Nat.le_of_ble_eq_true rfl, Nat.le_of_ble_eq_true rfl⟩) hS (fun q _ h => XA.le hS.1 q h) (XA.le hS.1) (fun x t H locs ht hvm hw hB9 _ _ hS => ?_)
          have hP := xB.at ht hB9
          clear hB9 ht hvm
          obtain ⟨st30, sl31, so32⟩ := x
          obtain ⟨hGst30, hOst30, hFst30, hw⟩ := hw
          dsimp only at hGst30 hOst30 hFst30 hw
          have hO : OG ad [3, 4] so so32 := hO.tr hOst30 (by decide)
          have hP : va_P (dC, dI) vwCl (xw A C nb st30 sl31 so32) _ := hP
          have hG : XG [1, 2, 4, 5, 7, 8, 9, 12, 13, 14, 15] st st30 := hG.tr hGst30 (by decide)
          have hF : FX 6 st sl so st30 sl31 so32 := hF.tr hFst30 (by omega) (by omega)
          have hR : CN c nm st30 sl31 0 := hR.fr0 hFst30
          have hT := hw
          have hp9 := hT.2.2.2.2.2.2
          have hk1 := tkd_lt (B := B) (g := g) (m := m) (p := (tkx B g m (tkx B g m p)))
          have hk2 := tkx_le (B := B) (g := g) (m := m) (p := (tkx B g m (tkx B g m p))) hp9
          have hk3 := tka_le (B := B) (g := g) (m := m) (p := (tkx B g m (tkx B g m p))) hp9 hB.2.2.1
          have hk4 := tkv_ltc (p := (tkx B g m (tkx B g m p))) hB hp9
          have hk5 := tkw_lt (B := B) (g := g) (m := m) (p := (tkx B g m (tkx B g m p)))
          refine lv_aload_n hx hb dX0_readAct_131 rfl (lv_at hl 1 rfl) ?_
          exact W.aret (v := .ref (ad (tkw B g m (tkx B g m p)))) hx hb hr (Or.inl ⟨_, rfl⟩) (Or.inr ⟨_, rfl⟩) (fun t ht hW => ⟨⟨(st30, sl31, so32), (ad (tkw B g m (tkx B g m p))), rfl, trivial, ⟨hG, hO, hF, Or.inr (Or.inr (Or.inl (⟨rfl, by omega, knw_f _ (hR0.nk2 (fun i hi => by rw [← (hT0.2.2.2.2.1 (by omega)), ← ez1]; exact hf3 i hi)), by omega, hT, by show st30 1 13 = st 1 13; rw [(hFst30 1 13 (by decide)).1, est22, up2_ne (r := 6) (k := gl) (a := 1) (j := 13) _ _ (by omega), hf14], by show st30 4 5 = st 4 5; rw [(hFst30 4 5 (by decide)).1, est22, up2_ne (r := 6) (k := gl) (a := 4) (j := 5) _ _ (by omega), (hFst8 4 5 (by decide)).1]⟩)))⟩, xB.of ht hP⟩, hS.F ht⟩) hS.2.2 dX0_readAct_132
      · exact (eO_no (by omega) ((bMy_p hmy (show ¬ (tkw B g m p = 6 ∨ tkw B g m p = 7 ∨ tkw B g m p = 8 ∨ tkw B g m p = 5 ∨ tkw B g m p = 12) by omega) (knw_f _ (hR0.nk2 (fun i hi => by rw [← (hT0.2.2.2.2.1 (by omega)), ← ez1]; exact hf3 i hi))))) hf21 (by omega)).elim
    · refine lv_iconst (v := (-1)) hx hb dX0_readAct_27 (by decide) ?_
      refine lv_icmp_eq (tgt := 35) hx hb dX0_readAct_28 (by decide) (fun cc => absurd cc (nI_nem (by omega))) (fun _ => ?_)
      refine lv_iconst (v := 2) hx hb dX0_readAct_31 (by decide) ?_
      refine lv_goto (tgt := 36) hx hb dX0_readAct_32 (by decide) ?_
      refine lv_istore (lv' := [(4, .int 2), (3, .ref (ad (tkw B g m p))), (0, .ref (A 4)), (1, .ref (A 1)), (2, .ref (A (36 + 20 * 0)))]) hx hb dX0_readAct_36 hl (by decide) rfl (fun ls hl => ?_)
      refine lv_aload_n hx hb dX0_readAct_38 rfl (lv_at hl 3 rfl) ?_
      refine lv_aload_n hx hb dX0_readAct_39 rfl (lv_at hl 4 rfl) ?_
      refine lv_iload hx hb dX0_readAct_40 (lv_at hl 0 rfl) ?_
      refine va_calli (va_runV (As := [.ref (A (36 + 20 * 0)), .int 2]) (rest := []) ⟨hx, hb, hml, hown, hts⟩ (y_takeNamem2 l dC dI ad E hEE A C nb _ hN st sl so B g m p c nm hG.1 hO.1 (CBt.fr hB hF) hT hR) (cwV 2 hts gX0_readAct_X8_takeNamed rfl rfl rfl (by decide +kernel) ⟨Nat.le_of_ble_eq_true rfl, Nat.le_of_ble_eq_true rfl⟩) ⟨fun a U g mk q => ⟨q.1, xPre.blind hEE q.2⟩, va_recv hK hP (ci := 9) (q0 := 1) rfl (xw_is (r := 1) (by omega) (xc_fix (r := 1) (by omega))), fun U hU hW => ⟨rfl, xPre.of hEE hP hK hE hS hU hW⟩⟩ rfl rfl hl.1 rfl (lv_room (Nat.le_of_ble_eq_true rfl)) dX0_readAct_42 ⟨Nat.le_of_ble_eq_true rfl, Nat.le_of_ble_eq_true rfl⟩) hS (fun q _ h => XA.le hS.1 q h) (XA.le hS.1) (fun r33 x t H locs ht hvm hw hB9 _ _ hS => ?_)
      have hP := xB.at ht hB9
      clear hB9 ht hvm
      obtain ⟨st34, sl35, so36⟩ := x
      obtain ⟨hGst34, hOst34, hFst34, hw⟩ := hw
      dsimp only at hGst34 hOst34 hFst34 hw
      have hO : OG ad [3, 4] so so36 := hO.tr hOst34 (by decide)
      have hP : va_P (dC, dI) vwCl (xw A C nb st34 sl35 so36) _ := hP
      have hG : XG [1, 2, 4, 5, 7, 8, 9, 12, 13, 14, 15] st st34 := hG.tr hGst34 (by decide)
      have hF : FX 6 st sl so st34 sl35 so36 := hF.tr hFst34 (by omega) (by omega)
      have hR : CN c nm st34 sl35 0 := hR.fr0 hFst34
      rcases hw with ⟨n37, rfl, hf38, hf39, hT, hf40, hf41⟩ | ⟨n42, n43, rfl, hf44, hf45, hf46, hf47⟩
      · have hp9 := hT.2.2.2.2.2.2
        have hk1 := tkd_lt (B := B) (g := g) (m := m) (p := (tkx B g m p))
        have hk2 := tkx_le (B := B) (g := g) (m := m) (p := (tkx B g m p)) hp9
        have hk3 := tka_le (B := B) (g := g) (m := m) (p := (tkx B g m p)) hp9 hB.2.2.1
        have hk4 := tkv_ltc (p := (tkx B g m p)) hB hp9
        have hk5 := tkw_lt (B := B) (g := g) (m := m) (p := (tkx B g m p))
        refine lv_if_ne (tgt := 52) hx hb dX0_readAct_45 (by decide) (fun _ => ?_) (fun cc => absurd cc (by decide))
        refine lv_aload_n hx hb dX0_readAct_52 rfl (lv_at hl 2 rfl) ?_
        refine va_get (D := (dC, dI)) (ci := 1) (v := .ref (A 6)) (C := RX0) (T := TX0) (N := 7) hx hb hts ii_X0_readAct_X0 hown hK hP 4 (xw_is (r := 4) (by omega) (xc_fix (r := 4) (by omega))) rfl 1 (by decide) (hts _ mm_X0_readAct_3) (fun _ hh => hh) rfl dX0_readAct_53 ?_
        refine lv_aload_n hx hb dX0_readAct_56 rfl (lv_at hl 2 rfl) ?_
        refine va_get (D := (dC, dI)) (ci := 1) (v := .int (st34 4 5)) (C := RX0) (T := TX0) (N := 7) hx hb hts ii_X0_readAct_X0 hown hK hP 4 (xw_is (r := 4) (by omega) (xc_fix (r := 4) (by omega))) rfl 5 (by decide) (hts _ mm_X0_readAct_4) (fun _ hh => hh) rfl dX0_readAct_57 ?_
        refine zz_top (v := (nI gl)) (by show st34 4 5 = _; rw [(hFst34 4 5 (by decide)).1, h5]) ?_
        refine lv_aload_n hx hb dX0_readAct_60 rfl (lv_at hl 3 rfl) ?_
        refine va_getN (host := "OffTheLead") (D := (dC, dI)) (ci := 9) (v := .int (st34 1 9)) (C := RX8) (T := TX8) (N := 15) hx hb hts ii_X0_readAct_X8 hown hK hP 1 (xw_is (r := 1) (by omega) (xc_fix (r := 1) (by omega))) rfl 9 (by decide) (va_Nw.use rfl (nf_X0_102 hEv)) (fun _ hh => hh) rfl dX0_readAct_61 ?_
        refine zz_top (v := (nI n37)) (by show st34 1 9 = _; rw [hf39]) ?_
        refine va_iast hx hb hK hP (xD hN _ _ _ _ _ _) hS 6 6 (xw_is (r := 6) (by omega) (xc_fix (r := 6) (by omega))) (xt_is (r := 6) (by omega) rfl) (i := (nI gl)) (vp_in_nI (by omega) (by decide)) dX0_readAct_64 (fun H locs hP _ hS => ?_)
        rw [nI_clamp (by omega)] at hP
        have hP : va_P (dC, dI) vwCl (xw A C nb (up2 st34 6 gl (nI n37)) sl35 so36) H := by rw [← xset (r := 6) (k := gl) (v := (nI n37)) (xc_fix (r := 6) (by omega))]; exact hP
        obtain ⟨st48, est48⟩ : ∃ y, y = up2 st34 6 gl (nI n37) := ⟨_, rfl⟩
        have hG : XG [1, 2, 4, 5, 7, 8, 9, 12, 13, 14, 15] st st48 := by rw [est48]; exact hG.up (xz (r := 6) (k := gl) (by unfold xrg; rfl : xrg 6 gl = 0)) (xpn (c := 3) (by unfold xcl; rfl : xcl 6 gl = 3) (by decide))
        rw [← est48] at hP
        have hF : FX 6 st sl so st48 sl35 so36 := by rw [est48]; exact hF.up (dc_bk (o := 6) (by omega))
        have hT : TC B g m (tkx B g m p) ad st48 sl35 so36 := by rw [est48]; exact hT.up (by omega)
        have hR : CN c nm st48 sl35 0 := by rw [est48]; exact hR.up (by omega)
        refine lv_aload_n hx hb dX0_readAct_65 rfl (lv_at hl 3 rfl) ?_
        refine va_getN (host := "OffTheLead") (D := (dC, dI)) (ci := 9) (v := va_rf (so36 1 7)) (C := RX8) (T := TX8) (N := 15) hx hb hts ii_X0_readAct_X8 hown hK hP 1 (xw_is (r := 1) (by omega) (xc_fix (r := 1) (by omega))) rfl 7 (by decide) (va_Nw.use rfl (nf_X0_50 hEv)) (fun _ hh => hh) rfl dX0_readAct_66 ?_
        refine zz_topq (r := some (ad (tkw B g m (tkx B g m p)))) (by rw [hT.2.2.2.2.2.1]) ?_
        refine lv_astore_n (lv' := [(3, .ref (ad (tkw B g m (tkx B g m p)))), (4, .int 2), (0, .ref (A 4)), (1, .ref (A 1)), (2, .ref (A (36 + 20 * 0)))]) hx hb dX0_readAct_69 rfl hl (by decide) rfl (fun ls hl => ?_)
        refine lv_iload hx hb dX0_readAct_70 (lv_at hl 1 rfl) ?_
        refine lv_iconst (v := 2) hx hb dX0_readAct_72 (by decide) ?_
        refine lv_icmp_ne (tgt := 98) hx hb dX0_readAct_73 (by decide) (fun cc => absurd (by decide) cc) (fun _ => ?_)
        refine lv_aload_n hx hb dX0_readAct_76 rfl (lv_at hl 0 rfl) ?_
        refine va_gets (v := .ref (ad 9)) hx hb (EV.word hEv (i := 9) (by decide)) hS hown (hts _ mm_X0_readAct_5) (fun _ hh => hh) dX0_readAct_77 ?_
        refine lv_acmp_eq (rx := (some (ad (tkw B g m (tkx B g m p))))) (ry := (some (ad 9))) (tgt := 90) hx hb dX0_readAct_80 (by decide) (fun c11 => ?_) (fun c11 => ?_)
        · have c11 : (tkw B g m (tkx B g m p)) = 9 := (EV.eqw hEv (i := (tkw B g m (tkx B g m p))) (j := 9) (by omega) (by omega)).mp c11
          refine lv_iconst (v := 1) hx hb dX0_readAct_90 (by decide) ?_
          refine lv_goto (tgt := 110) hx hb dX0_readAct_91 (by decide) ?_
          refine lv_istore (lv' := [(5, .int 1), (3, .ref (ad (tkw B g m (tkx B g m p)))), (4, .int 2), (0, .ref (A 4)), (1, .ref (A 1)), (2, .ref (A (36 + 20 * 0)))]) hx hb dX0_readAct_110 hl (by decide) rfl (fun ls hl => ?_)
          refine lv_iload hx hb dX0_readAct_112 (lv_at hl 0 rfl) ?_
          refine lv_if_ne (tgt := 127) hx hb dX0_readAct_114 (by decide) (fun _ => ?_) (fun cc => absurd cc (by decide))
          refine lv_aload_n hx hb dX0_readAct_127 rfl (lv_at hl 4 rfl) ?_
          refine va_callv (va_runV (As := []) (rest := []) ⟨hx, hb, hml, hown, hts⟩ (y_X8_step l dC dI ad E hEE A C nb _ hN st48 sl35 so36 B g m (tkx B g m (tkx B g m p)) hG.1 hO.1 (CBt.fr hB hF) hT.1 hk2.2) (cwV 0 hts gX0_readAct_X8_step rfl rfl rfl (by decide +kernel) ⟨Nat.le_of_ble_eq_true rfl, Nat.le_of_ble_eq_true rfl⟩) ⟨fun a U g mk q => ⟨q.1, xPre.blind hEE q.2⟩, va_recv hK hP (ci := 9) (q0 := 1) rfl (xw_is (r := 1) (by omega) (xc_fix (r := 1) (by omega))), fun U hU hW => ⟨rfl, xPre.of hEE hP hK hE hS hU hW⟩⟩ rfl rfl hl.1 rfl (lv_room (Nat.le_of_ble_eq_true rfl)) dX0_readAct_128 ⟨Nat.le_of_ble_eq_true rfl, Nat.le_of_ble_eq_true rfl⟩) hS (fun q _ h => XA.le hS.1 q h) (XA.le hS.1) (fun x t H locs ht hvm hw hB9 _ _ hS => ?_)
          have hP := xB.at ht hB9
          clear hB9 ht hvm
          obtain ⟨st50, sl51, so52⟩ := x
          obtain ⟨hGst50, hOst50, hFst50, hw⟩ := hw
          dsimp only at hGst50 hOst50 hFst50 hw
          have hO : OG ad [3, 4] so so52 := hO.tr hOst50 (by decide)
          have hP : va_P (dC, dI) vwCl (xw A C nb st50 sl51 so52) _ := hP
          have hG : XG [1, 2, 4, 5, 7, 8, 9, 12, 13, 14, 15] st st50 := hG.tr hGst50 (by decide)
          have hF : FX 6 st sl so st50 sl51 so52 := hF.tr hFst50 (by omega) (by omega)
          have hR : CN c nm st50 sl51 0 := hR.fr0 hFst50
          have hT := hw
          have hp9 := hT.2.2.2.2.2.2
          have hk1 := tkd_lt (B := B) (g := g) (m := m) (p := (tkx B g m (tkx B g m p)))
          have hk2 := tkx_le (B := B) (g := g) (m := m) (p := (tkx B g m (tkx B g m p))) hp9
          have hk3 := tka_le (B := B) (g := g) (m := m) (p := (tkx B g m (tkx B g m p))) hp9 hB.2.2.1
          have hk4 := tkv_ltc (p := (tkx B g m (tkx B g m p))) hB hp9
          have hk5 := tkw_lt (B := B) (g := g) (m := m) (p := (tkx B g m (tkx B g m p)))
          refine lv_aload_n hx hb dX0_readAct_131 rfl (lv_at hl 1 rfl) ?_
          exact W.aret (v := .ref (ad (tkw B g m (tkx B g m p)))) hx hb hr (Or.inl ⟨_, rfl⟩) (Or.inr ⟨_, rfl⟩) (fun t ht hW => ⟨⟨(st50, sl51, so52), (ad (tkw B g m (tkx B g m p))), rfl, trivial, ⟨hG, hO, hF, Or.inr (Or.inl (⟨rfl, by omega, knw_t (c 2) n4 hf5 (hR0.kn2 hf5 (tkc_V (m := m) (by omega) hB1 (by omega)) (hf6.trans (by rw [ez1]; exact (hT0.2.2.2.2.1 (by omega))))), by omega, hT, by show st50 1 13 = st 1 13; rw [(hFst50 1 13 (by decide)).1, est48, up2_ne (r := 6) (k := gl) (a := 1) (j := 13) _ _ (by omega), hf40], by show st50 4 5 = st 4 5; rw [(hFst50 4 5 (by decide)).1, est48, up2_ne (r := 6) (k := gl) (a := 4) (j := 5) _ _ (by omega), (hFst34 4 5 (by decide)).1]⟩))⟩, xB.of ht hP⟩, hS.F ht⟩) hS.2.2 dX0_readAct_132
        · have c11 : ¬ (tkw B g m (tkx B g m p)) = 9 := fun hh => c11 ((EV.eqw hEv (i := (tkw B g m (tkx B g m p))) (j := 9) (by omega) (by omega)).mpr hh)
          refine lv_aload_n hx hb dX0_readAct_83 rfl (lv_at hl 0 rfl) ?_
          refine va_gets (v := .ref (ad 10)) hx hb (EV.word hEv (i := 10) (by decide)) hS hown (hts _ mm_X0_readAct_6) (fun _ hh => hh) dX0_readAct_84 ?_
          refine lv_acmp_ne (rx := (some (ad (tkw B g m (tkx B g m p))))) (ry := (some (ad 10))) (tgt := 94) hx hb dX0_readAct_87 (by decide) (fun c13 => ?_) (fun c13 => ?_)
          · have c13 : ¬ (tkw B g m (tkx B g m p)) = 10 := fun hh => c13 ((EV.eqw hEv (i := (tkw B g m (tkx B g m p))) (j := 10) (by omega) (by omega)).mpr hh)
            refine lv_iconst (v := 0) hx hb dX0_readAct_94 (by decide) ?_
            refine lv_goto (tgt := 110) hx hb dX0_readAct_95 (by decide) ?_
            refine lv_istore (lv' := [(5, .int 0), (3, .ref (ad (tkw B g m (tkx B g m p)))), (4, .int 2), (0, .ref (A 4)), (1, .ref (A 1)), (2, .ref (A (36 + 20 * 0)))]) hx hb dX0_readAct_110 hl (by decide) rfl (fun ls hl => ?_)
            refine lv_iload hx hb dX0_readAct_112 (lv_at hl 0 rfl) ?_
            refine lv_if_ne (tgt := 127) hx hb dX0_readAct_114 (by decide) (fun cc => absurd (by decide) cc) (fun _ => ?_)
            refine lv_aload_n hx hb dX0_readAct_117 rfl (lv_at hl 4 rfl) ?_
            refine lv_iconst (v := 1) hx hb dX0_readAct_118 (by decide) ?_
            refine va_calli (va_runV (As := [.int 1]) (rest := []) ⟨hx, hb, hml, hown, hts⟩ (y_X8_refuse l dC dI ad E hEE A C nb _ hN st48 sl35 so36 1 B g m (tkx B g m p) (by omega) hG.1 hO.1 (CBt.fr hB hF) hT) (cwV 1 hts gX0_readAct_X8_refuse rfl rfl rfl (by decide +kernel) ⟨Nat.le_of_ble_eq_true rfl, Nat.le_of_ble_eq_true rfl⟩) ⟨fun a U g mk q => ⟨q.1, xPre.blind hEE q.2⟩, va_recv hK hP (ci := 9) (q0 := 1) rfl (xw_is (r := 1) (by omega) (xc_fix (r := 1) (by omega))), fun U hU hW => ⟨rfl, xPre.of hEE hP hK hE hS hU hW⟩⟩ rfl rfl hl.1 rfl (lv_room (Nat.le_of_ble_eq_true rfl)) dX0_readAct_119 ⟨Nat.le_of_ble_eq_true rfl, Nat.le_of_ble_eq_true rfl⟩) hS (fun q _ h => XA.le hS.1 q h) (XA.le hS.1) (fun r53 x t H locs ht hvm hw hB9 _ _ hS => ?_)
            have hP := xB.at ht hB9
            clear hB9 ht hvm
            obtain ⟨st54, sl55, so56⟩ := x
            obtain ⟨hGst54, hOst54, hFst54, hw⟩ := hw
            dsimp only at hGst54 hOst54 hFst54 hw
            have hO : OG ad [3, 4] so so56 := hO.tr hOst54 (by decide)
            have hP : va_P (dC, dI) vwCl (xw A C nb st54 sl55 so56) _ := hP
            have hG : XG [1, 2, 4, 5, 7, 8, 9, 12, 13, 14, 15] st st54 := hG.tr hGst54 (by decide)
            have hF : FX 6 st sl so st54 sl55 so56 := hF.tr hFst54 (by omega) (by omega)
            have hR : CN c nm st54 sl55 0 := hR.fr0 hFst54
            obtain ⟨rfl, hf57, hf58, hT⟩ := hw
            have hp9 := hT.2.2.2.2.2.2
            have hk1 := tkd_lt (B := B) (g := g) (m := m) (p := (tkx B g m p))
            have hk2 := tkx_le (B := B) (g := g) (m := m) (p := (tkx B g m p)) hp9
            have hk3 := tka_le (B := B) (g := g) (m := m) (p := (tkx B g m p)) hp9 hB.2.2.1
            have hk4 := tkv_ltc (p := (tkx B g m p)) hB hp9
            have hk5 := tkw_lt (B := B) (g := g) (m := m) (p := (tkx B g m p))
            refine lv_pop hx hb dX0_readAct_122 rfl ?_
            refine va_gets (v := .ref (ad 25)) hx hb (EV.word hEv (i := 25) (by decide)) hS hown (hts _ mm_X0_readAct_2) (fun _ hh => hh) dX0_readAct_123 ?_
            exact W.aret (v := .ref (ad 25)) hx hb hr (Or.inl ⟨_, rfl⟩) (Or.inr ⟨_, rfl⟩) (fun t ht hW => ⟨⟨(st54, sl55, so56), (ad 25), rfl, trivial, ⟨hG, hO, hF, Or.inr (Or.inr (Or.inr (⟨rfl, by show st54 1 13 = _; rw [hf57], by show st54 1 14 = _; rw [hf58], by omega, by show st54 4 5 = st 4 5; rw [(hFst54 4 5 (by decide)).1, est48, up2_ne (r := 6) (k := gl) (a := 4) (j := 5) _ _ (by omega), (hFst34 4 5 (by decide)).1], Or.inl ⟨knw_t (c 2) n4 hf5 (hR0.kn2 hf5 (tkc_V (m := m) (by omega) hB1 (by omega)) (hf6.trans (by rw [ez1]; exact (hT0.2.2.2.2.1 (by omega))))), by omega⟩⟩)))⟩, xB.of ht hP⟩, hS.F ht⟩) hS.2.2 dX0_readAct_126
          · have c13 : (tkw B g m (tkx B g m p)) = 10 := (EV.eqw hEv (i := (tkw B g m (tkx B g m p))) (j := 10) (by omega) (by omega)).mp c13
            refine lv_iconst (v := 1) hx hb dX0_readAct_90 (by decide) ?_
            refine lv_goto (tgt := 110) hx hb dX0_readAct_91 (by decide) ?_
            refine lv_istore (lv' := [(5, .int 1), (3, .ref (ad (tkw B g m (tkx B g m p)))), (4, .int 2), (0, .ref (A 4)), (1, .ref (A 1)), (2, .ref (A (36 + 20 * 0)))]) hx hb dX0_readAct_110 hl (by decide) rfl (fun ls hl => ?_)
            refine lv_iload hx hb dX0_readAct_112 (lv_at hl 0 rfl) ?_
            refine lv_if_ne (tgt := 127) hx hb dX0_readAct_114 (by decide) (fun _ => ?_) (fun cc => absurd cc (by decide))
            refine lv_aload_n hx hb dX0_readAct_127 rfl (lv_at hl 4 rfl) ?_
            refine va_callv (va_runV (As := []) (rest := []) ⟨hx, hb, hml, hown, hts⟩ (y_X8_step l dC dI ad E hEE A C nb _ hN st48 sl35 so36 B g m (tkx B g m (tkx B g m p)) hG.1 hO.1 (CBt.fr hB hF) hT.1 hk2.2) (cwV 0 hts gX0_readAct_X8_step rfl rfl rfl (by decide +kernel) ⟨Nat.le_of_ble_eq_true rfl, Nat.le_of_ble_eq_true rfl⟩) ⟨fun a U g mk q => ⟨q.1, xPre.blind hEE q.2⟩, va_recv hK hP (ci := 9) (q0 := 1) rfl (xw_is (r := 1) (by omega) (xc_fix (r := 1) (by omega))), fun U hU hW => ⟨rfl, xPre.of hEE hP hK hE hS hU hW⟩⟩ rfl rfl hl.1 rfl (lv_room (Nat.le_of_ble_eq_true rfl)) dX0_readAct_128 ⟨Nat.le_of_ble_eq_true rfl, Nat.le_of_ble_eq_true rfl⟩) hS (fun q _ h => XA.le hS.1 q h) (XA.le hS.1) (fun x t H locs ht hvm hw hB9 _ _ hS => ?_)
            have hP := xB.at ht hB9
            clear hB9 ht hvm
            obtain ⟨st60, sl61, so62⟩ := x
            obtain ⟨hGst60, hOst60, hFst60, hw⟩ := hw
            dsimp only at hGst60 hOst60 hFst60 hw
            have hO : OG ad [3, 4] so so62 := hO.tr hOst60 (by decide)
            have hP : va_P (dC, dI) vwCl (xw A C nb st60 sl61 so62) _ := hP
            have hG : XG [1, 2, 4, 5, 7, 8, 9, 12, 13, 14, 15] st st60 := hG.tr hGst60 (by decide)
            have hF : FX 6 st sl so st60 sl61 so62 := hF.tr hFst60 (by omega) (by omega)
            have hR : CN c nm st60 sl61 0 := hR.fr0 hFst60
            have hT := hw
            have hp9 := hT.2.2.2.2.2.2
            have hk1 := tkd_lt (B := B) (g := g) (m := m) (p := (tkx B g m (tkx B g m p)))
            have hk2 := tkx_le (B := B) (g := g) (m := m) (p := (tkx B g m (tkx B g m p))) hp9
            have hk3 := tka_le (B := B) (g := g) (m := m) (p := (tkx B g m (tkx B g m p))) hp9 hB.2.2.1
            have hk4 := tkv_ltc (p := (tkx B g m (tkx B g m p))) hB hp9
            have hk5 := tkw_lt (B := B) (g := g) (m := m) (p := (tkx B g m (tkx B g m p)))
            refine lv_aload_n hx hb dX0_readAct_131 rfl (lv_at hl 1 rfl) ?_
            exact W.aret (v := .ref (ad (tkw B g m (tkx B g m p)))) hx hb hr (Or.inl ⟨_, rfl⟩) (Or.inr ⟨_, rfl⟩) (fun t ht hW => ⟨⟨(st60, sl61, so62), (ad (tkw B g m (tkx B g m p))), rfl, trivial, ⟨hG, hO, hF, Or.inr (Or.inl (⟨rfl, by omega, knw_t (c 2) n4 hf5 (hR0.kn2 hf5 (tkc_V (m := m) (by omega) hB1 (by omega)) (hf6.trans (by rw [ez1]; exact (hT0.2.2.2.2.1 (by omega))))), by omega, hT, by show st60 1 13 = st 1 13; rw [(hFst60 1 13 (by decide)).1, est48, up2_ne (r := 6) (k := gl) (a := 1) (j := 13) _ _ (by omega), hf40], by show st60 4 5 = st 4 5; rw [(hFst60 4 5 (by decide)).1, est48, up2_ne (r := 6) (k := gl) (a := 4) (j := 5) _ _ (by omega), (hFst34 4 5 (by decide)).1]⟩))⟩, xB.of ht hP⟩, hS.F ht⟩) hS.2.2 dX0_readAct_132
      · exact (eO_no (by omega) (knw_t (c 2) n4 hf5 (hR0.kn2 hf5 (tkc_V (m := m) (by omega) hB1 (by omega)) (hf6.trans (by rw [ez1]; exact (hT0.2.2.2.2.1 (by omega)))))) hf47 (by omega)).elim
  · have c1 : ¬ (tkw B g m p) = 24 := fun hh => c1 ((EV.eqw hEv (i := (tkw B g m p)) (j := 24) (by omega) (by omega)).mpr hh)
    refine lv_aload_n hx hb dX0_readAct_12 rfl (lv_at hl 2 rfl) ?_
    refine va_callv (va_runV (As := []) (rest := []) ⟨hx, hb, hml, hown, hts⟩ (y_X8_step l dC dI ad E hEE A C nb _ hN st sl so B g m (tkx B g m p) hG.1 hO.1 (CBt.fr hB hF) hT.1 hk2.2) (cwV 0 hts gX0_readAct_X8_step rfl rfl rfl (by decide +kernel) ⟨Nat.le_of_ble_eq_true rfl, Nat.le_of_ble_eq_true rfl⟩) ⟨fun a U g mk q => ⟨q.1, xPre.blind hEE q.2⟩, va_recv hK hP (ci := 9) (q0 := 1) rfl (xw_is (r := 1) (by omega) (xc_fix (r := 1) (by omega))), fun U hU hW => ⟨rfl, xPre.of hEE hP hK hE hS hU hW⟩⟩ rfl rfl hl.1 rfl (lv_room (Nat.le_of_ble_eq_true rfl)) dX0_readAct_13 ⟨Nat.le_of_ble_eq_true rfl, Nat.le_of_ble_eq_true rfl⟩) hS (fun q _ h => XA.le hS.1 q h) (XA.le hS.1) (fun x t H locs ht hvm hw hB9 _ _ hS => ?_)
    have hP := xB.at ht hB9
    clear hB9 ht hvm
    obtain ⟨st64, sl65, so66⟩ := x
    obtain ⟨hGst64, hOst64, hFst64, hw⟩ := hw
    dsimp only at hGst64 hOst64 hFst64 hw
    have hO : OG ad [3, 4] so so66 := hO.tr hOst64 (by decide)
    have hP : va_P (dC, dI) vwCl (xw A C nb st64 sl65 so66) _ := hP
    have hG : XG [1, 2, 4, 5, 7, 8, 9, 12, 13, 14, 15] st st64 := hG.tr hGst64 (by decide)
    have hF : FX 6 st sl so st64 sl65 so66 := hF.tr hFst64 (by omega) (by omega)
    have hR : CN c nm st64 sl65 0 := hR.fr0 hFst64
    have hT := hw
    have hp9 := hT.2.2.2.2.2.2
    have hk1 := tkd_lt (B := B) (g := g) (m := m) (p := (tkx B g m p))
    have hk2 := tkx_le (B := B) (g := g) (m := m) (p := (tkx B g m p)) hp9
    have hk3 := tka_le (B := B) (g := g) (m := m) (p := (tkx B g m p)) hp9 hB.2.2.1
    have hk4 := tkv_ltc (p := (tkx B g m p)) hB hp9
    have hk5 := tkw_lt (B := B) (g := g) (m := m) (p := (tkx B g m p))
    refine lv_aload_n hx hb dX0_readAct_16 rfl (lv_at hl 0 rfl) ?_
    exact W.aret (v := .ref (ad (tkw B g m p))) hx hb hr (Or.inl ⟨_, rfl⟩) (Or.inr ⟨_, rfl⟩) (fun t ht hW => ⟨⟨(st64, sl65, so66), (ad (tkw B g m p)), rfl, trivial, ⟨hG, hO, hF, Or.inl (⟨rfl, by omega, hT, by show st64 1 13 = st 1 13; rw [(hFst64 1 13 (by decide)).1], by show st64 4 5 = st 4 5; rw [(hFst64 4 5 (by decide)).1]⟩)⟩, xB.of ht hP⟩, hS.F ht⟩) hS.2.2 dX0_readAct_17
