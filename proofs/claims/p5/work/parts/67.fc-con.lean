set_option maxHeartbeats 4000000 in
set_option maxRecDepth 100000 in
theorem y_X0_readLine (l : Launch) (dC : Nat → ClassId) (dI : Nat → Nat → Nat) (ad : Nat → Nat) (E : EP) (hEE : EC ad E) (A : Nat → Nat) (C : Nat → ClassId) (nb sz : Nat) (hN : XN A) (st : Nat → Nat → Int32) (sl : Nat → Nat → Int64) (so : Nat → XR) (B : Nat → Nat) (g m : Nat) (p : Nat) (c : Nat → Nat) (nm : Nat → Nat → Nat) (gl : Nat) (hI : XI st) (hOI : OI ad so) (hB : CBt B g m st) (hT : TC B g m p ad st sl so) (hR : CN c nm st sl 0) (h5 : st 4 5 = nI gl) (hgl : gl < 40) (hmy : bMy B g m c nm p) : Met l yX0_readLine wsX0_readLine ({ frames := 8, cells := 0, slots := 0, locals := 177 }) (va_Pc [.ref (A 4), .ref (A 1), .ref (A (36 + 20 * 0))] (xPre E dC dI A C nb sz st sl so)) (va_Qi (fun (r : Int32) (x : XT) => XG [1, 2, 4, 5, 7, 8, 9, 12, 13, 14, 15] st x.1 ∧ OG ad [3, 4] so x.2.2 ∧ FX 6 st sl so x.1 x.2.1 x.2.2 ∧ ((∃ q : Nat, r = 1 ∧ TC B g m q ad x.1 x.2.1 x.2.2 ∧ x.1 1 13 = st 1 13 ∧ x.1 4 5 = st 4 5 ∧ bMd B g m c nm p = (0, q, 0)) ∨ (∃ f : Nat, ∃ a : Nat, r = 0 ∧ x.1 1 13 = nI f ∧ x.1 1 14 = nI a ∧ (1 ≤ f ∧ f < 9) ∧ bMd B g m c nm p = sf f a))) (xB dC dI A C nb) (XA A sz)) 0 0 (XA A sz) := by
  refine Met.ofW (cc := cX0_readLine) (maxL := 5) (ret := (some .boolean)) (by decide) rfl ?_
  intro p9 e s m9 args below meth c9 s₁ B9 hml hv
  obtain ⟨rfl, hsz, hP, hK, hE⟩ := hv
  have hx := B9.exec
  have hb := B9.bytes
  have hr := B9.returns
  have hts := atoms_spec (ws := wsX0_readLine) B9.pre
  have hown : s.vm.findClass RX0 = some m9.cls := findClass_of_methodNamed B9.named
  subst hsz
  have hEv := hEE.1 _ _ _ hE
  have hS : va_S (XA A s.heap.size) s.heap s.heap [] := va_S.rf
  have hG : XG [1, 2, 4, 5, 7, 8, 9, 12, 13, 14, 15] st st := XG.rf hI
  have hO : OG ad [3, 4] so so := OG.rf hOI
  have hl := lv_entry ([.ref (A 4), .ref (A 1), .ref (A (36 + 20 * 0))]) (n := 5) (Nat.le_of_ble_eq_true rfl)
  rw [lg_entry_eq]
  generalize (lg_sl ([.ref (A 4), .ref (A 1), .ref (A (36 + 20 * 0))]) ++ List.replicate (5 - (lg_sl ([.ref (A 4), .ref (A 1), .ref (A (36 + 20 * 0))])).length) Slot.unset).toArray = ls at hl ⊢
  have hl : lv_has ls 5 [(0, .ref (A 4)), (1, .ref (A 1)), (2, .ref (A (36 + 20 * 0)))] := hl
  have hB1 := hB.2.2.1
  have hB2 := hB.2.2.2.1
  have hF : FX 6 st sl so st sl so := FX.rf
  have hp9 := hT.2.2.2.2.2.2
  have hk1 := tkd_lt (B := B) (g := g) (m := m) (p := p)
  have hk2 := tkx_le (B := B) (g := g) (m := m) (p := p) hp9
  have hk3 := tka_le (B := B) (g := g) (m := m) (p := p) hp9 hB.2.2.1
  have hk4 := tkv_ltc (p := p) hB hp9
  have hk5 := tkw_lt (B := B) (g := g) (m := m) (p := p)
  have hR9 := hR.2.1
  have hw25 := @tkw_d B g m p
  refine lv_aload_n hx hb dX0_readLine_0 rfl (lv_at hl 0 rfl) ?_
  refine lv_aload_n hx hb dX0_readLine_1 rfl (lv_at hl 1 rfl) ?_
  refine lv_aload_n hx hb dX0_readLine_2 rfl (lv_at hl 2 rfl) ?_
  refine va_callr (va_runV (As := [.ref (A 1), .ref (A (36 + 20 * 0))]) (rest := []) ⟨hx, hb, hml, hown, hts⟩ (y_X0_readAct l dC dI ad E hEE A C nb _ hN st sl so B g m p c nm gl hG.1 hO.1 (CBt.fr hB hF) hT hR (by rw [h5]) (by omega) (hmy)) (cwV 2 hts gX0_readLine_X0_readAct rfl rfl rfl (by decide +kernel) ⟨Nat.le_of_ble_eq_true rfl, Nat.le_of_ble_eq_true rfl⟩) ⟨fun a U g mk q => ⟨q.1, xPre.blind hEE q.2⟩, va_recv hK hP (ci := 1) (q0 := 4) rfl (xw_is (r := 4) (by omega) (xc_fix (r := 4) (by omega))), fun U hU hW => ⟨rfl, xPre.of hEE hP hK hE hS hU hW⟩⟩ rfl rfl hl.1 rfl (lv_room (Nat.le_of_ble_eq_true rfl)) dX0_readLine_3 ⟨Nat.le_of_ble_eq_true rfl, Nat.le_of_ble_eq_true rfl⟩) hS (fun q _ h => XA.le hS.1 q h) (XA.le hS.1) (fun x r1 t H locs ht hvm hw hB9 _ _ hS => ?_)
  obtain ⟨hw, hB9⟩ := hB9
  have hP := xB.at ht hB9
  clear hB9 ht hvm
  obtain ⟨st2, sl3, so4⟩ := x
  obtain ⟨hGst2, hOst2, hFst2, hw⟩ := hw
  dsimp only at hGst2 hOst2 hFst2 hw
  have hO : OG ad [3, 4] so so4 := hO.tr hOst2 (by decide)
  have hP : va_P (dC, dI) vwCl (xw A C nb st2 sl3 so4) _ := hP
  have hG : XG [1, 2, 4, 5, 7, 8, 9, 12, 13, 14, 15] st st2 := hG.tr hGst2 (by decide)
  have hF : FX 6 st sl so st2 sl3 so4 := hF.tr hFst2 (by omega) (by omega)
  have hR : CN c nm st2 sl3 0 := hR.fr0 hFst2
  rcases hw with ⟨rfl, hf5, hT, hf6, hf7⟩ | ⟨rfl, hf8, hf9, hf10, hT, hf11, hf12⟩ | ⟨rfl, hf13, hf14, hf15, hT, hf16, hf17⟩ | ⟨rfl, hf18, hf19, hf20, hf21, hf22⟩
  · have hp9 := hT.2.2.2.2.2.2
    have hk1 := tkd_lt (B := B) (g := g) (m := m) (p := (tkx B g m p))
    have hk2 := tkx_le (B := B) (g := g) (m := m) (p := (tkx B g m p)) hp9
    have hk3 := tka_le (B := B) (g := g) (m := m) (p := (tkx B g m p)) hp9 hB.2.2.1
    have hk4 := tkv_ltc (p := (tkx B g m p)) hB hp9
    have hk5 := tkw_lt (B := B) (g := g) (m := m) (p := (tkx B g m p))
    have hal9 : tkw B g m p = 6 ∨ tkw B g m p = 7 ∨ tkw B g m p = 8 ∨ tkw B g m p = 5 ∨ tkw B g m p = 12 := bMy_a hmy hf5
    refine lv_astore_n (lv' := [(3, .ref (ad (tkw B g m p))), (0, .ref (A 4)), (1, .ref (A 1)), (2, .ref (A (36 + 20 * 0)))]) hx hb dX0_readLine_6 rfl hl (by decide) rfl (fun ls hl => ?_)
    refine lv_aload_n hx hb dX0_readLine_7 rfl (lv_at hl 1 rfl) ?_
    refine va_get (D := (dC, dI)) (ci := 1) (v := .ref (A 5)) (C := RX0) (T := TX0) (N := 7) hx hb hts ii_X0_readLine_X0 hown hK hP 4 (xw_is (r := 4) (by omega) (xc_fix (r := 4) (by omega))) rfl 0 (by decide) (hts _ mm_X0_readLine_1) (fun _ hh => hh) rfl dX0_readLine_8 ?_
    refine lv_aload_n hx hb dX0_readLine_11 rfl (lv_at hl 1 rfl) ?_
    refine va_get (D := (dC, dI)) (ci := 1) (v := .int (st2 4 5)) (C := RX0) (T := TX0) (N := 7) hx hb hts ii_X0_readLine_X0 hown hK hP 4 (xw_is (r := 4) (by omega) (xc_fix (r := 4) (by omega))) rfl 5 (by decide) (hts _ mm_X0_readLine_2) (fun _ hh => hh) rfl dX0_readLine_12 ?_
    refine zz_top (v := (nI gl)) (by show st2 4 5 = _; rw [hf7, h5]) ?_
    refine lv_aload_n hx hb dX0_readLine_15 rfl (lv_at hl 0 rfl) ?_
    refine zz_astw (x := (some (ad (tkw B g m p)))) hx hb hEv hK hP (xD hN _ _ _ _ _ _) hS 5 5 (xw_is (r := 5) (by omega) (xc_fix (r := 5) (by omega))) (xt_is (r := 5) (by omega) rfl) (isW.of (by omega)) (i := (nI gl)) (vp_in_nI (by omega) (by decide)) dX0_readLine_16 (fun H locs hP _ hS => ?_)
    rw [nI_clamp (by omega)] at hP
    have hP : va_P (dC, dI) vwCl (xw A C nb st2 sl3 (upO so4 5 gl (some (ad (tkw B g m p))))) H := by rw [← xsetO (r := 5) (k := gl) (v := (some (ad (tkw B g m p)))) (xc_fix (r := 5) (by omega))]; exact hP
    obtain ⟨so23, eso23⟩ : ∃ y, y = upO so4 5 gl (some (ad (tkw B g m p))) := ⟨_, rfl⟩
    have hO : OG ad [3, 4] so so23 := by rw [eso23]; exact hO.up (isW.of (by omega)) (fun hh => absurd hh (by omega)) (by decide)
    rw [← eso23] at hP
    have hF : FX 6 st sl so st2 sl3 so23 := by rw [eso23]; exact hF.upO (dc_bk (o := 5) (by omega))
    have hT : TC B g m (tkx B g m p) ad st2 sl3 so23 := by rw [eso23]; exact hT.upO (by omega)
    refine lv_aload_n hx hb dX0_readLine_17 rfl (lv_at hl 0 rfl) ?_
    refine va_gets (v := .ref (ad 25)) hx hb (EV.word hEv (i := 25) (by decide)) hS hown (hts _ mm_X0_readLine_3) (fun _ hh => hh) dX0_readLine_18 ?_
    refine lv_acmp_eq (rx := (some (ad (tkw B g m p)))) (ry := (some (ad 25))) (tgt := 38) hx hb dX0_readLine_21 (by decide) (fun hh => absurd ((EV.eqw hEv (i := (tkw B g m p)) (j := 25) (by omega) (by omega)).mp hh) (by omega)) (fun _ => ?_)
    refine lv_aload_n hx hb dX0_readLine_24 rfl (lv_at hl 0 rfl) ?_
    refine va_gets (v := .ref (ad 9)) hx hb (EV.word hEv (i := 9) (by decide)) hS hown (hts _ mm_X0_readLine_4) (fun _ hh => hh) dX0_readLine_25 ?_
    refine lv_acmp_eq (rx := (some (ad (tkw B g m p)))) (ry := (some (ad 9))) (tgt := 38) hx hb dX0_readLine_28 (by decide) (fun hh => absurd ((EV.eqw hEv (i := (tkw B g m p)) (j := 9) (by omega) (by omega)).mp hh) (by omega)) (fun _ => ?_)
    refine lv_aload_n hx hb dX0_readLine_31 rfl (lv_at hl 0 rfl) ?_
    refine va_gets (v := .ref (ad 10)) hx hb (EV.word hEv (i := 10) (by decide)) hS hown (hts _ mm_X0_readLine_5) (fun _ hh => hh) dX0_readLine_32 ?_
    refine lv_acmp_ne (rx := (some (ad (tkw B g m p)))) (ry := (some (ad 10))) (tgt := 51) hx hb dX0_readLine_35 (by decide) (fun _ => ?_) (fun hh => absurd ((EV.eqw hEv (i := (tkw B g m p)) (j := 10) (by omega) (by omega)).mp hh) (by omega))
    refine lv_aload_n hx hb dX0_readLine_51 rfl (lv_at hl 0 rfl) ?_
    refine va_gets (v := .ref (ad 5)) hx hb (EV.word hEv (i := 5) (by decide)) hS hown (hts _ mm_X0_readLine_6) (fun _ hh => hh) dX0_readLine_52 ?_
    refine lv_acmp_eq (rx := (some (ad (tkw B g m p)))) (ry := (some (ad 5))) (tgt := 65) hx hb dX0_readLine_55 (by decide) (fun c4 => ?_) (fun c4 => ?_)
    · have c4 : (tkw B g m p) = 5 := (EV.eqw hEv (i := (tkw B g m p)) (j := 5) (by omega) (by omega)).mp c4
      refine lv_aload_n hx hb dX0_readLine_65 rfl (lv_at hl 0 rfl) ?_
      refine va_gets (v := .ref (ad 12)) hx hb (EV.word hEv (i := 12) (by decide)) hS hown (hts _ mm_X0_readLine_7) (fun _ hh => hh) dX0_readLine_66 ?_
      refine lv_acmp_ne (rx := (some (ad (tkw B g m p)))) (ry := (some (ad 12))) (tgt := 82) hx hb dX0_readLine_69 (by decide) (fun _ => ?_) (fun hh => absurd ((EV.eqw hEv (i := (tkw B g m p)) (j := 12) (by omega) (by omega)).mp hh) (by omega))
      refine lv_aload_n hx hb dX0_readLine_82 rfl (lv_at hl 2 rfl) ?_
      refine lv_iconst (v := 0) hx hb dX0_readLine_83 (by decide) ?_
      refine lv_bipush (v := 12) hx hb dX0_readLine_84 (by decide) ?_
      refine va_calli (va_runV (As := [.int 0, .int 12]) (rest := []) ⟨hx, hb, hml, hown, hts⟩ (y_X8_takeNumber l dC dI ad E hEE A C nb _ hN st2 sl3 so23 0 12 B g m (tkx B g m p) (by omega) (by omega) hG.1 hO.1 (CBt.fr hB hF) hT) (cwV 2 hts gX0_readLine_X8_takeNumber rfl rfl rfl (by decide +kernel) ⟨Nat.le_of_ble_eq_true rfl, Nat.le_of_ble_eq_true rfl⟩) ⟨fun a U g mk q => ⟨q.1, xPre.blind hEE q.2⟩, va_recv hK hP (ci := 9) (q0 := 1) rfl (xw_is (r := 1) (by omega) (xc_fix (r := 1) (by omega))), fun U hU hW => ⟨rfl, xPre.of hEE hP hK hE hS hU hW⟩⟩ rfl rfl hl.1 rfl (lv_room (Nat.le_of_ble_eq_true rfl)) dX0_readLine_86 ⟨Nat.le_of_ble_eq_true rfl, Nat.le_of_ble_eq_true rfl⟩) hS (fun q _ h => XA.le hS.1 q h) (XA.le hS.1) (fun r24 x t H locs ht hvm hw hB9 _ _ hS => ?_)
      have hP := xB.at ht hB9
      clear hB9 ht hvm
      obtain ⟨st25, sl26, so27⟩ := x
      obtain ⟨hGst25, hOst25, hFst25, hw⟩ := hw
      dsimp only at hGst25 hOst25 hFst25 hw
      have hO : OG ad [3, 4] so so27 := hO.tr hOst25 (by decide)
      have hP : va_P (dC, dI) vwCl (xw A C nb st25 sl26 so27) _ := hP
      have hG : XG [1, 2, 4, 5, 7, 8, 9, 12, 13, 14, 15] st st25 := hG.tr hGst25 (by decide)
      have hF : FX 6 st sl so st25 sl26 so27 := hF.tr hFst25 (by omega) (by omega)
      have hR : CN c nm st25 sl26 0 := hR.fr0 hFst25
      rcases hw with ⟨rfl, hf28, hf29, hf30, hT, hf31, hf32⟩ | ⟨n33, n34, rfl, hf35, hf36, hf37, hf38⟩
      · have hp9 := hT.2.2.2.2.2.2
        have hk1 := tkd_lt (B := B) (g := g) (m := m) (p := (tkx B g m (tkx B g m p)))
        have hk2 := tkx_le (B := B) (g := g) (m := m) (p := (tkx B g m (tkx B g m p))) hp9
        have hk3 := tka_le (B := B) (g := g) (m := m) (p := (tkx B g m (tkx B g m p))) hp9 hB.2.2.1
        have hk4 := tkv_ltc (p := (tkx B g m (tkx B g m p))) hB hp9
        have hk5 := tkw_lt (B := B) (g := g) (m := m) (p := (tkx B g m (tkx B g m p)))
        refine lv_istore (lv' := [(4, .int 1), (3, .ref (ad (tkw B g m p))), (0, .ref (A 4)), (1, .ref (A 1)), (2, .ref (A (36 + 20 * 0)))]) hx hb dX0_readLine_89 hl (by decide) rfl (fun ls hl => ?_)
        refine lv_aload_n hx hb dX0_readLine_91 rfl (lv_at hl 2 rfl) ?_
        refine va_get (D := (dC, dI)) (ci := 1) (v := .ref (A 6)) (C := RX0) (T := TX0) (N := 7) hx hb hts ii_X0_readLine_X0 hown hK hP 4 (xw_is (r := 4) (by omega) (xc_fix (r := 4) (by omega))) rfl 1 (by decide) (hts _ mm_X0_readLine_8) (fun _ hh => hh) rfl dX0_readLine_92 ?_
        refine lv_aload_n hx hb dX0_readLine_95 rfl (lv_at hl 2 rfl) ?_
        refine va_get (D := (dC, dI)) (ci := 1) (v := .int (st25 4 5)) (C := RX0) (T := TX0) (N := 7) hx hb hts ii_X0_readLine_X0 hown hK hP 4 (xw_is (r := 4) (by omega) (xc_fix (r := 4) (by omega))) rfl 5 (by decide) (hts _ mm_X0_readLine_2) (fun _ hh => hh) rfl dX0_readLine_96 ?_
        refine zz_top (v := (nI gl)) (by show st25 4 5 = _; rw [(hFst25 4 5 (by decide)).1, hf7, h5]) ?_
        refine lv_aload_n hx hb dX0_readLine_99 rfl (lv_at hl 3 rfl) ?_
        refine va_getN (host := "OffTheLead") (D := (dC, dI)) (ci := 9) (v := .int (st25 1 9)) (C := RX8) (T := TX8) (N := 15) hx hb hts ii_X0_readLine_X8 hown hK hP 1 (xw_is (r := 1) (by omega) (xc_fix (r := 1) (by omega))) rfl 9 (by decide) (va_Nw.use rfl (nf_X0_102 hEv)) (fun _ hh => hh) rfl dX0_readLine_100 ?_
        refine zz_top (v := (nI (tkv B g (tkx B g m p)))) (by show st25 1 9 = _; rw [hf30]) ?_
        refine va_iast hx hb hK hP (xD hN _ _ _ _ _ _) hS 6 6 (xw_is (r := 6) (by omega) (xc_fix (r := 6) (by omega))) (xt_is (r := 6) (by omega) rfl) (i := (nI gl)) (vp_in_nI (by omega) (by decide)) dX0_readLine_103 (fun H locs hP _ hS => ?_)
        rw [nI_clamp (by omega)] at hP
        have hP : va_P (dC, dI) vwCl (xw A C nb (up2 st25 6 gl (nI (tkv B g (tkx B g m p)))) sl26 so27) H := by rw [← xset (r := 6) (k := gl) (v := (nI (tkv B g (tkx B g m p)))) (xc_fix (r := 6) (by omega))]; exact hP
        obtain ⟨st39, est39⟩ : ∃ y, y = up2 st25 6 gl (nI (tkv B g (tkx B g m p))) := ⟨_, rfl⟩
        have hG : XG [1, 2, 4, 5, 7, 8, 9, 12, 13, 14, 15] st st39 := by rw [est39]; exact hG.up (xz (r := 6) (k := gl) (by unfold xrg; rfl : xrg 6 gl = 0)) (xpn (c := 3) (by unfold xcl; rfl : xcl 6 gl = 3) (by decide))
        rw [← est39] at hP
        have hF : FX 6 st sl so st39 sl26 so27 := by rw [est39]; exact hF.up (dc_bk (o := 6) (by omega))
        have hT : TC B g m (tkx B g m (tkx B g m p)) ad st39 sl26 so27 := by rw [est39]; exact hT.up (by omega)
        have hR : CN c nm st39 sl26 0 := by rw [est39]; exact hR.up (by omega)
        refine lv_iload hx hb dX0_readLine_104 (lv_at hl 0 rfl) ?_
        exact W.zret (v := 1) hx hb hr rfl (fun t ht hW => ⟨⟨1, (st39, sl26, so27), rfl, ⟨hG, hO, hF, Or.inl (⟨(tkx B g m (tkx B g m p)), rfl, hT, by show st39 1 13 = st 1 13; rw [est39, up2_ne (r := 6) (k := gl) (a := 1) (j := 13) _ _ (by omega), hf31, hf6], by show st39 4 5 = st 4 5; rw [est39, up2_ne (r := 6) (k := gl) (a := 4) (j := 5) _ _ (by omega), (hFst25 4 5 (by decide)).1, hf7], (bMd_a (bMy_a hmy hf5)).trans ((bOf_s (by omega)).trans (sOf_y (hf32 _)))⟩)⟩, xB.of ht hP⟩, hS.F ht⟩) hS.2.2 dX0_readLine_106
      · refine lv_istore (lv' := [(4, .int 0), (3, .ref (ad (tkw B g m p))), (0, .ref (A 4)), (1, .ref (A 1)), (2, .ref (A (36 + 20 * 0)))]) hx hb dX0_readLine_89 hl (by decide) rfl (fun ls hl => ?_)
        refine lv_aload_n hx hb dX0_readLine_91 rfl (lv_at hl 2 rfl) ?_
        refine va_get (D := (dC, dI)) (ci := 1) (v := .ref (A 6)) (C := RX0) (T := TX0) (N := 7) hx hb hts ii_X0_readLine_X0 hown hK hP 4 (xw_is (r := 4) (by omega) (xc_fix (r := 4) (by omega))) rfl 1 (by decide) (hts _ mm_X0_readLine_8) (fun _ hh => hh) rfl dX0_readLine_92 ?_
        refine lv_aload_n hx hb dX0_readLine_95 rfl (lv_at hl 2 rfl) ?_
        refine va_get (D := (dC, dI)) (ci := 1) (v := .int (st25 4 5)) (C := RX0) (T := TX0) (N := 7) hx hb hts ii_X0_readLine_X0 hown hK hP 4 (xw_is (r := 4) (by omega) (xc_fix (r := 4) (by omega))) rfl 5 (by decide) (hts _ mm_X0_readLine_2) (fun _ hh => hh) rfl dX0_readLine_96 ?_
        refine zz_top (v := (nI gl)) (by show st25 4 5 = _; rw [(hFst25 4 5 (by decide)).1, hf7, h5]) ?_
        refine lv_aload_n hx hb dX0_readLine_99 rfl (lv_at hl 3 rfl) ?_
        refine va_getN (host := "OffTheLead") (D := (dC, dI)) (ci := 9) (v := .int (st25 1 9)) (C := RX8) (T := TX8) (N := 15) hx hb hts ii_X0_readLine_X8 hown hK hP 1 (xw_is (r := 1) (by omega) (xc_fix (r := 1) (by omega))) rfl 9 (by decide) (va_Nw.use rfl (nf_X0_102 hEv)) (fun _ hh => hh) rfl dX0_readLine_100 ?_
        obtain ⟨z40, ez40⟩ : ∃ y : Int32, st25 1 9 = y := ⟨_, rfl⟩
        refine zz_top (v := z40) (by exact ez40) ?_
        refine va_iast hx hb hK hP (xD hN _ _ _ _ _ _) hS 6 6 (xw_is (r := 6) (by omega) (xc_fix (r := 6) (by omega))) (xt_is (r := 6) (by omega) rfl) (i := (nI gl)) (vp_in_nI (by omega) (by decide)) dX0_readLine_103 (fun H locs hP _ hS => ?_)
        rw [nI_clamp (by omega)] at hP
        have hP : va_P (dC, dI) vwCl (xw A C nb (up2 st25 6 gl z40) sl26 so27) H := by rw [← xset (r := 6) (k := gl) (v := z40) (xc_fix (r := 6) (by omega))]; exact hP
        obtain ⟨st41, est41⟩ : ∃ y, y = up2 st25 6 gl z40 := ⟨_, rfl⟩
        have hG : XG [1, 2, 4, 5, 7, 8, 9, 12, 13, 14, 15] st st41 := by rw [est41]; exact hG.up (xz (r := 6) (k := gl) (by unfold xrg; rfl : xrg 6 gl = 0)) (xpn (c := 3) (by unfold xcl; rfl : xcl 6 gl = 3) (by decide))
        rw [← est41] at hP
        have hF : FX 6 st sl so st41 sl26 so27 := by rw [est41]; exact hF.up (dc_bk (o := 6) (by omega))
        have hR : CN c nm st41 sl26 0 := by rw [est41]; exact hR.up (by omega)
        refine lv_iload hx hb dX0_readLine_104 (lv_at hl 0 rfl) ?_
        exact W.zret (v := 0) hx hb hr rfl (fun t ht hW => ⟨⟨0, (st41, sl26, so27), rfl, ⟨hG, hO, hF, Or.inr (⟨n33, n34, rfl, by show st41 1 13 = _; rw [est41, up2_ne (r := 6) (k := gl) (a := 1) (j := 13) _ _ (by omega), hf35], by show st41 1 14 = _; rw [est41, up2_ne (r := 6) (k := gl) (a := 1) (j := 14) _ _ (by omega), hf36], hf37, (bMd_a (bMy_a hmy hf5)).trans ((bOf_s (by omega)).trans (sOf_f (hf38 _) (by omega)))⟩)⟩, xB.of ht hP⟩, hS.F ht⟩) hS.2.2 dX0_readLine_106
    · have c4 : ¬ (tkw B g m p) = 5 := fun hh => c4 ((EV.eqw hEv (i := (tkw B g m p)) (j := 5) (by omega) (by omega)).mpr hh)
      refine lv_aload_n hx hb dX0_readLine_58 rfl (lv_at hl 0 rfl) ?_
      refine va_gets (v := .ref (ad 12)) hx hb (EV.word hEv (i := 12) (by decide)) hS hown (hts _ mm_X0_readLine_7) (fun _ hh => hh) dX0_readLine_59 ?_
      refine lv_acmp_ne (rx := (some (ad (tkw B g m p)))) (ry := (some (ad 12))) (tgt := 107) hx hb dX0_readLine_62 (by decide) (fun c6 => ?_) (fun c6 => ?_)
      · have c6 : ¬ (tkw B g m p) = 12 := fun hh => c6 ((EV.eqw hEv (i := (tkw B g m p)) (j := 12) (by omega) (by omega)).mpr hh)
        refine lv_aload_n hx hb dX0_readLine_107 rfl (lv_at hl 2 rfl) ?_
        refine lv_aload_n hx hb dX0_readLine_108 rfl (lv_at hl 3 rfl) ?_
        refine lv_iconst (v := 0) hx hb dX0_readLine_109 (by decide) ?_
        refine va_calli (va_runV (As := [.ref (A (36 + 20 * 0)), .int 0]) (rest := []) ⟨hx, hb, hml, hown, hts⟩ (y_takeNamem0 l dC dI ad E hEE A C nb _ hN st2 sl3 so23 B g m (tkx B g m p) c nm hG.1 hO.1 (CBt.fr hB hF) hT hR) (cwV 2 hts gX0_readLine_X8_takeNamed rfl rfl rfl (by decide +kernel) ⟨Nat.le_of_ble_eq_true rfl, Nat.le_of_ble_eq_true rfl⟩) ⟨fun a U g mk q => ⟨q.1, xPre.blind hEE q.2⟩, va_recv hK hP (ci := 9) (q0 := 1) rfl (xw_is (r := 1) (by omega) (xc_fix (r := 1) (by omega))), fun U hU hW => ⟨rfl, xPre.of hEE hP hK hE hS hU hW⟩⟩ rfl rfl hl.1 rfl (lv_room (Nat.le_of_ble_eq_true rfl)) dX0_readLine_110 ⟨Nat.le_of_ble_eq_true rfl, Nat.le_of_ble_eq_true rfl⟩) hS (fun q _ h => XA.le hS.1 q h) (XA.le hS.1) (fun r42 x t H locs ht hvm hw hB9 _ _ hS => ?_)
        have hP := xB.at ht hB9
        clear hB9 ht hvm
        obtain ⟨st43, sl44, so45⟩ := x
        obtain ⟨hGst43, hOst43, hFst43, hw⟩ := hw
        dsimp only at hGst43 hOst43 hFst43 hw
        have hO : OG ad [3, 4] so so45 := hO.tr hOst43 (by decide)
        have hP : va_P (dC, dI) vwCl (xw A C nb st43 sl44 so45) _ := hP
        have hG : XG [1, 2, 4, 5, 7, 8, 9, 12, 13, 14, 15] st st43 := hG.tr hGst43 (by decide)
        have hF : FX 6 st sl so st43 sl44 so45 := hF.tr hFst43 (by omega) (by omega)
        have hR : CN c nm st43 sl44 0 := hR.fr0 hFst43
        rcases hw with ⟨n46, rfl, hf47, hf48, hT, hf49, hf50⟩ | ⟨n51, n52, rfl, hf53, hf54, hf55, hf56⟩
        · have hp9 := hT.2.2.2.2.2.2
          have hk1 := tkd_lt (B := B) (g := g) (m := m) (p := (tkx B g m (tkx B g m p)))
          have hk2 := tkx_le (B := B) (g := g) (m := m) (p := (tkx B g m (tkx B g m p))) hp9
          have hk3 := tka_le (B := B) (g := g) (m := m) (p := (tkx B g m (tkx B g m p))) hp9 hB.2.2.1
          have hk4 := tkv_ltc (p := (tkx B g m (tkx B g m p))) hB hp9
          have hk5 := tkw_lt (B := B) (g := g) (m := m) (p := (tkx B g m (tkx B g m p)))
          refine lv_if_ne (tgt := 118) hx hb dX0_readLine_113 (by decide) (fun _ => ?_) (fun cc => absurd cc (by decide))
          refine lv_aload_n hx hb dX0_readLine_118 rfl (lv_at hl 1 rfl) ?_
          refine va_get (D := (dC, dI)) (ci := 1) (v := .ref (A 7)) (C := RX0) (T := TX0) (N := 7) hx hb hts ii_X0_readLine_X0 hown hK hP 4 (xw_is (r := 4) (by omega) (xc_fix (r := 4) (by omega))) rfl 2 (by decide) (hts _ mm_X0_readLine_9) (fun _ hh => hh) rfl dX0_readLine_119 ?_
          refine lv_aload_n hx hb dX0_readLine_122 rfl (lv_at hl 1 rfl) ?_
          refine va_get (D := (dC, dI)) (ci := 1) (v := .int (st43 4 5)) (C := RX0) (T := TX0) (N := 7) hx hb hts ii_X0_readLine_X0 hown hK hP 4 (xw_is (r := 4) (by omega) (xc_fix (r := 4) (by omega))) rfl 5 (by decide) (hts _ mm_X0_readLine_2) (fun _ hh => hh) rfl dX0_readLine_123 ?_
          refine zz_top (v := (nI gl)) (by show st43 4 5 = _; rw [(hFst43 4 5 (by decide)).1, hf7, h5]) ?_
          refine lv_aload_n hx hb dX0_readLine_126 rfl (lv_at hl 2 rfl) ?_
          refine va_getN (host := "OffTheLead") (D := (dC, dI)) (ci := 9) (v := .int (st43 1 9)) (C := RX8) (T := TX8) (N := 15) hx hb hts ii_X0_readLine_X8 hown hK hP 1 (xw_is (r := 1) (by omega) (xc_fix (r := 1) (by omega))) rfl 9 (by decide) (va_Nw.use rfl (nf_X0_102 hEv)) (fun _ hh => hh) rfl dX0_readLine_127 ?_
          refine zz_top (v := (nI n46)) (by show st43 1 9 = _; rw [hf48]) ?_
          refine va_iast hx hb hK hP (xD hN _ _ _ _ _ _) hS 7 7 (xw_is (r := 7) (by omega) (xc_fix (r := 7) (by omega))) (xt_is (r := 7) (by omega) rfl) (i := (nI gl)) (vp_in_nI (by omega) (by decide)) dX0_readLine_130 (fun H locs hP _ hS => ?_)
          rw [nI_clamp (by omega)] at hP
          have hP : va_P (dC, dI) vwCl (xw A C nb (up2 st43 7 gl (nI n46)) sl44 so45) H := by rw [← xset (r := 7) (k := gl) (v := (nI n46)) (xc_fix (r := 7) (by omega))]; exact hP
          obtain ⟨st57, est57⟩ : ∃ y, y = up2 st43 7 gl (nI n46) := ⟨_, rfl⟩
          have hG : XG [1, 2, 4, 5, 7, 8, 9, 12, 13, 14, 15] st st57 := by rw [est57]; exact hG.up (xn (n := n46) (b := 5) (by unfold xrg; rfl : xrg 7 gl = 5) (by omega)) (xpn (c := 0) (by unfold xcl; rfl : xcl 7 gl = 0) (by decide))
          rw [← est57] at hP
          have hF : FX 6 st sl so st57 sl44 so45 := by rw [est57]; exact hF.up (dc_bk (o := 7) (by omega))
          have hT : TC B g m (tkx B g m (tkx B g m p)) ad st57 sl44 so45 := by rw [est57]; exact hT.up (by omega)
          have hR : CN c nm st57 sl44 0 := by rw [est57]; exact hR.up (by omega)
          refine lv_aload_n hx hb dX0_readLine_131 rfl (lv_at hl 0 rfl) ?_
          refine va_gets (v := .ref (ad 8)) hx hb (EV.word hEv (i := 8) (by decide)) hS hown (hts _ mm_X0_readLine_10) (fun _ hh => hh) dX0_readLine_132 ?_
          refine lv_acmp_ne (rx := (some (ad (tkw B g m p)))) (ry := (some (ad 8))) (tgt := 140) hx hb dX0_readLine_135 (by decide) (fun c8 => ?_) (fun c8 => ?_)
          · have c8 : ¬ (tkw B g m p) = 8 := fun hh => c8 ((EV.eqw hEv (i := (tkw B g m p)) (j := 8) (by omega) (by omega)).mpr hh)
            refine lv_aload_n hx hb dX0_readLine_140 rfl (lv_at hl 2 rfl) ?_
            refine va_calli (va_runV (As := []) (rest := []) ⟨hx, hb, hml, hown, hts⟩ (y_X8_takeHours l dC dI ad E hEE A C nb _ hN st57 sl44 so45 B g m (tkx B g m (tkx B g m p)) hG.1 hO.1 (CBt.fr hB hF) hT) (cwV 0 hts gX0_readLine_X8_takeHours rfl rfl rfl (by decide +kernel) ⟨Nat.le_of_ble_eq_true rfl, Nat.le_of_ble_eq_true rfl⟩) ⟨fun a U g mk q => ⟨q.1, xPre.blind hEE q.2⟩, va_recv hK hP (ci := 9) (q0 := 1) rfl (xw_is (r := 1) (by omega) (xc_fix (r := 1) (by omega))), fun U hU hW => ⟨rfl, xPre.of hEE hP hK hE hS hU hW⟩⟩ rfl rfl hl.1 rfl (lv_room (Nat.le_of_ble_eq_true rfl)) dX0_readLine_141 ⟨Nat.le_of_ble_eq_true rfl, Nat.le_of_ble_eq_true rfl⟩) hS (fun q _ h => XA.le hS.1 q h) (XA.le hS.1) (fun r58 x t H locs ht hvm hw hB9 _ _ hS => ?_)
            have hP := xB.at ht hB9
            clear hB9 ht hvm
            obtain ⟨st59, sl60, so61⟩ := x
            obtain ⟨hGst59, hOst59, hFst59, hw⟩ := hw
            dsimp only at hGst59 hOst59 hFst59 hw
            have hO : OG ad [3, 4] so so61 := hO.tr hOst59 (by decide)
            have hP : va_P (dC, dI) vwCl (xw A C nb st59 sl60 so61) _ := hP
            have hG : XG [1, 2, 4, 5, 7, 8, 9, 12, 13, 14, 15] st st59 := hG.tr hGst59 (by decide)
            have hF : FX 6 st sl so st59 sl60 so61 := hF.tr hFst59 (by omega) (by omega)
            have hR : CN c nm st59 sl60 0 := hR.fr0 hFst59
            rcases hw with ⟨rfl, hf62, hf63, hf64, hf65, hT, hf66, hf67, hf68⟩ | ⟨n69, n70, rfl, hf71, hf72, hf73, hf74⟩
            · have hp9 := hT.2.2.2.2.2.2
              have hk1 := tkd_lt (B := B) (g := g) (m := m) (p := (tkx B g m (tkx B g m (tkx B g m (tkx B g m p)))))
              have hk2 := tkx_le (B := B) (g := g) (m := m) (p := (tkx B g m (tkx B g m (tkx B g m (tkx B g m p))))) hp9
              have hk3 := tka_le (B := B) (g := g) (m := m) (p := (tkx B g m (tkx B g m (tkx B g m (tkx B g m p))))) hp9 hB.2.2.1
              have hk4 := tkv_ltc (p := (tkx B g m (tkx B g m (tkx B g m (tkx B g m p))))) hB hp9
              have hk5 := tkw_lt (B := B) (g := g) (m := m) (p := (tkx B g m (tkx B g m (tkx B g m (tkx B g m p)))))
              refine lv_istore (lv' := [(4, .int 1), (3, .ref (ad (tkw B g m p))), (0, .ref (A 4)), (1, .ref (A 1)), (2, .ref (A (36 + 20 * 0)))]) hx hb dX0_readLine_144 hl (by decide) rfl (fun ls hl => ?_)
              refine lv_aload_n hx hb dX0_readLine_146 rfl (lv_at hl 2 rfl) ?_
              refine va_get (D := (dC, dI)) (ci := 1) (v := .ref (A 8)) (C := RX0) (T := TX0) (N := 7) hx hb hts ii_X0_readLine_X0 hown hK hP 4 (xw_is (r := 4) (by omega) (xc_fix (r := 4) (by omega))) rfl 3 (by decide) (hts _ mm_X0_readLine_11) (fun _ hh => hh) rfl dX0_readLine_147 ?_
              refine lv_aload_n hx hb dX0_readLine_150 rfl (lv_at hl 2 rfl) ?_
              refine va_get (D := (dC, dI)) (ci := 1) (v := .int (st59 4 5)) (C := RX0) (T := TX0) (N := 7) hx hb hts ii_X0_readLine_X0 hown hK hP 4 (xw_is (r := 4) (by omega) (xc_fix (r := 4) (by omega))) rfl 5 (by decide) (hts _ mm_X0_readLine_2) (fun _ hh => hh) rfl dX0_readLine_151 ?_
              refine zz_top (v := (nI gl)) (by show st59 4 5 = _; rw [(hFst59 4 5 (by decide)).1, est57, up2_ne (r := 7) (k := gl) (a := 4) (j := 5) _ _ (by omega), (hFst43 4 5 (by decide)).1, hf7, h5]) ?_
              refine lv_aload_n hx hb dX0_readLine_154 rfl (lv_at hl 3 rfl) ?_
              refine va_getN (host := "OffTheLead") (D := (dC, dI)) (ci := 9) (v := .int (st59 1 11)) (C := RX8) (T := TX8) (N := 15) hx hb hts ii_X0_readLine_X8 hown hK hP 1 (xw_is (r := 1) (by omega) (xc_fix (r := 1) (by omega))) rfl 11 (by decide) (va_Nw.use rfl (nf_X0_113 hEv)) (fun _ hh => hh) rfl dX0_readLine_155 ?_
              refine zz_top (v := (nI (tkv B g (tkx B g m (tkx B g m p))))) (by show st59 1 11 = _; rw [hf62]) ?_
              refine va_iast hx hb hK hP (xD hN _ _ _ _ _ _) hS 8 8 (xw_is (r := 8) (by omega) (xc_fix (r := 8) (by omega))) (xt_is (r := 8) (by omega) rfl) (i := (nI gl)) (vp_in_nI (by omega) (by decide)) dX0_readLine_158 (fun H locs hP _ hS => ?_)
              rw [nI_clamp (by omega)] at hP
              have hP : va_P (dC, dI) vwCl (xw A C nb (up2 st59 8 gl (nI (tkv B g (tkx B g m (tkx B g m p))))) sl60 so61) H := by rw [← xset (r := 8) (k := gl) (v := (nI (tkv B g (tkx B g m (tkx B g m p))))) (xc_fix (r := 8) (by omega))]; exact hP
              obtain ⟨st75, est75⟩ : ∃ y, y = up2 st59 8 gl (nI (tkv B g (tkx B g m (tkx B g m p)))) := ⟨_, rfl⟩
              have hG : XG [1, 2, 4, 5, 7, 8, 9, 12, 13, 14, 15] st st75 := by rw [est75]; exact hG.up (xz (r := 8) (k := gl) (by unfold xrg; rfl : xrg 8 gl = 0)) (xpn (c := 0) (by unfold xcl; rfl : xcl 8 gl = 0) (by decide))
              rw [← est75] at hP
              have hF : FX 6 st sl so st75 sl60 so61 := by rw [est75]; exact hF.up (dc_bk (o := 8) (by omega))
              have hT : TC B g m (tkx B g m (tkx B g m (tkx B g m (tkx B g m p)))) ad st75 sl60 so61 := by rw [est75]; exact hT.up (by omega)
              have hR : CN c nm st75 sl60 0 := by rw [est75]; exact hR.up (by omega)
              refine lv_aload_n hx hb dX0_readLine_159 rfl (lv_at hl 2 rfl) ?_
              refine va_get (D := (dC, dI)) (ci := 1) (v := .ref (A 9)) (C := RX0) (T := TX0) (N := 7) hx hb hts ii_X0_readLine_X0 hown hK hP 4 (xw_is (r := 4) (by omega) (xc_fix (r := 4) (by omega))) rfl 4 (by decide) (hts _ mm_X0_readLine_12) (fun _ hh => hh) rfl dX0_readLine_160 ?_
              refine lv_aload_n hx hb dX0_readLine_163 rfl (lv_at hl 2 rfl) ?_
              refine va_get (D := (dC, dI)) (ci := 1) (v := .int (st75 4 5)) (C := RX0) (T := TX0) (N := 7) hx hb hts ii_X0_readLine_X0 hown hK hP 4 (xw_is (r := 4) (by omega) (xc_fix (r := 4) (by omega))) rfl 5 (by decide) (hts _ mm_X0_readLine_2) (fun _ hh => hh) rfl dX0_readLine_164 ?_
              refine zz_top (v := (nI gl)) (by show st75 4 5 = _; rw [est75, up2_ne (r := 8) (k := gl) (a := 4) (j := 5) _ _ (by omega), (hFst59 4 5 (by decide)).1, est57, up2_ne (r := 7) (k := gl) (a := 4) (j := 5) _ _ (by omega), (hFst43 4 5 (by decide)).1, hf7, h5]) ?_
              refine lv_aload_n hx hb dX0_readLine_167 rfl (lv_at hl 3 rfl) ?_
              refine va_getN (host := "OffTheLead") (D := (dC, dI)) (ci := 9) (v := .int (st75 1 12)) (C := RX8) (T := TX8) (N := 15) hx hb hts ii_X0_readLine_X8 hown hK hP 1 (xw_is (r := 1) (by omega) (xc_fix (r := 1) (by omega))) rfl 12 (by decide) (va_Nw.use rfl (nf_X0_116 hEv)) (fun _ hh => hh) rfl dX0_readLine_168 ?_
              refine zz_top (v := (nI (tkv B g (tkx B g m (tkx B g m (tkx B g m p)))))) (by show st75 1 12 = _; rw [est75, up2_ne (r := 8) (k := gl) (a := 1) (j := 12) _ _ (by omega), hf63]) ?_
              refine va_iast hx hb hK hP (xD hN _ _ _ _ _ _) hS 9 9 (xw_is (r := 9) (by omega) (xc_fix (r := 9) (by omega))) (xt_is (r := 9) (by omega) rfl) (i := (nI gl)) (vp_in_nI (by omega) (by decide)) dX0_readLine_171 (fun H locs hP _ hS => ?_)
              rw [nI_clamp (by omega)] at hP
              have hP : va_P (dC, dI) vwCl (xw A C nb (up2 st75 9 gl (nI (tkv B g (tkx B g m (tkx B g m (tkx B g m p)))))) sl60 so61) H := by rw [← xset (r := 9) (k := gl) (v := (nI (tkv B g (tkx B g m (tkx B g m (tkx B g m p)))))) (xc_fix (r := 9) (by omega))]; exact hP
              obtain ⟨st76, est76⟩ : ∃ y, y = up2 st75 9 gl (nI (tkv B g (tkx B g m (tkx B g m (tkx B g m p))))) := ⟨_, rfl⟩
              have hG : XG [1, 2, 4, 5, 7, 8, 9, 12, 13, 14, 15] st st76 := by rw [est76]; exact hG.up (xz (r := 9) (k := gl) (by unfold xrg; rfl : xrg 9 gl = 0)) (xpn (c := 0) (by unfold xcl; rfl : xcl 9 gl = 0) (by decide))
              rw [← est76] at hP
              have hF : FX 6 st sl so st76 sl60 so61 := by rw [est76]; exact hF.up (dc_bk (o := 9) (by omega))
              have hT : TC B g m (tkx B g m (tkx B g m (tkx B g m (tkx B g m p)))) ad st76 sl60 so61 := by rw [est76]; exact hT.up (by omega)
              have hR : CN c nm st76 sl60 0 := by rw [est76]; exact hR.up (by omega)
              refine lv_iload hx hb dX0_readLine_172 (lv_at hl 0 rfl) ?_
              exact W.zret (v := 1) hx hb hr rfl (fun t ht hW => ⟨⟨1, (st76, sl60, so61), rfl, ⟨hG, hO, hF, Or.inl (⟨(tkx B g m (tkx B g m (tkx B g m (tkx B g m p)))), rfl, hT, by show st76 1 13 = st 1 13; rw [est76, up2_ne (r := 9) (k := gl) (a := 1) (j := 13) _ _ (by omega), est75, up2_ne (r := 8) (k := gl) (a := 1) (j := 13) _ _ (by omega), hf66, est57, up2_ne (r := 7) (k := gl) (a := 1) (j := 13) _ _ (by omega), hf49, hf6], by show st76 4 5 = st 4 5; rw [est76, up2_ne (r := 9) (k := gl) (a := 4) (j := 5) _ _ (by omega), est75, up2_ne (r := 8) (k := gl) (a := 4) (j := 5) _ _ (by omega), (hFst59 4 5 (by decide)).1, est57, up2_ne (r := 7) (k := gl) (a := 4) (j := 5) _ _ (by omega), (hFst43 4 5 (by decide)).1, hf7], (bMd_a (bMy_a hmy hf5)).trans ((bOf_h (by omega)).trans ((bPl_y (sNam_y hf50)).trans (sOf_y (hf68 kP))))⟩)⟩, xB.of ht hP⟩, hS.F ht⟩) hS.2.2 dX0_readLine_174
            · refine lv_istore (lv' := [(4, .int 0), (3, .ref (ad (tkw B g m p))), (0, .ref (A 4)), (1, .ref (A 1)), (2, .ref (A (36 + 20 * 0)))]) hx hb dX0_readLine_144 hl (by decide) rfl (fun ls hl => ?_)
              refine lv_aload_n hx hb dX0_readLine_146 rfl (lv_at hl 2 rfl) ?_
              refine va_get (D := (dC, dI)) (ci := 1) (v := .ref (A 8)) (C := RX0) (T := TX0) (N := 7) hx hb hts ii_X0_readLine_X0 hown hK hP 4 (xw_is (r := 4) (by omega) (xc_fix (r := 4) (by omega))) rfl 3 (by decide) (hts _ mm_X0_readLine_11) (fun _ hh => hh) rfl dX0_readLine_147 ?_
              refine lv_aload_n hx hb dX0_readLine_150 rfl (lv_at hl 2 rfl) ?_
              refine va_get (D := (dC, dI)) (ci := 1) (v := .int (st59 4 5)) (C := RX0) (T := TX0) (N := 7) hx hb hts ii_X0_readLine_X0 hown hK hP 4 (xw_is (r := 4) (by omega) (xc_fix (r := 4) (by omega))) rfl 5 (by decide) (hts _ mm_X0_readLine_2) (fun _ hh => hh) rfl dX0_readLine_151 ?_
              refine zz_top (v := (nI gl)) (by show st59 4 5 = _; rw [(hFst59 4 5 (by decide)).1, est57, up2_ne (r := 7) (k := gl) (a := 4) (j := 5) _ _ (by omega), (hFst43 4 5 (by decide)).1, hf7, h5]) ?_
              refine lv_aload_n hx hb dX0_readLine_154 rfl (lv_at hl 3 rfl) ?_
              refine va_getN (host := "OffTheLead") (D := (dC, dI)) (ci := 9) (v := .int (st59 1 11)) (C := RX8) (T := TX8) (N := 15) hx hb hts ii_X0_readLine_X8 hown hK hP 1 (xw_is (r := 1) (by omega) (xc_fix (r := 1) (by omega))) rfl 11 (by decide) (va_Nw.use rfl (nf_X0_113 hEv)) (fun _ hh => hh) rfl dX0_readLine_155 ?_
              obtain ⟨z77, ez77⟩ : ∃ y : Int32, st59 1 11 = y := ⟨_, rfl⟩
              refine zz_top (v := z77) (by exact ez77) ?_
              refine va_iast hx hb hK hP (xD hN _ _ _ _ _ _) hS 8 8 (xw_is (r := 8) (by omega) (xc_fix (r := 8) (by omega))) (xt_is (r := 8) (by omega) rfl) (i := (nI gl)) (vp_in_nI (by omega) (by decide)) dX0_readLine_158 (fun H locs hP _ hS => ?_)
              rw [nI_clamp (by omega)] at hP
              have hP : va_P (dC, dI) vwCl (xw A C nb (up2 st59 8 gl z77) sl60 so61) H := by rw [← xset (r := 8) (k := gl) (v := z77) (xc_fix (r := 8) (by omega))]; exact hP
              obtain ⟨st78, est78⟩ : ∃ y, y = up2 st59 8 gl z77 := ⟨_, rfl⟩
              have hG : XG [1, 2, 4, 5, 7, 8, 9, 12, 13, 14, 15] st st78 := by rw [est78]; exact hG.up (xz (r := 8) (k := gl) (by unfold xrg; rfl : xrg 8 gl = 0)) (xpn (c := 0) (by unfold xcl; rfl : xcl 8 gl = 0) (by decide))
              rw [← est78] at hP
              have hF : FX 6 st sl so st78 sl60 so61 := by rw [est78]; exact hF.up (dc_bk (o := 8) (by omega))
              have hR : CN c nm st78 sl60 0 := by rw [est78]; exact hR.up (by omega)
              refine lv_aload_n hx hb dX0_readLine_159 rfl (lv_at hl 2 rfl) ?_
              refine va_get (D := (dC, dI)) (ci := 1) (v := .ref (A 9)) (C := RX0) (T := TX0) (N := 7) hx hb hts ii_X0_readLine_X0 hown hK hP 4 (xw_is (r := 4) (by omega) (xc_fix (r := 4) (by omega))) rfl 4 (by decide) (hts _ mm_X0_readLine_12) (fun _ hh => hh) rfl dX0_readLine_160 ?_
              refine lv_aload_n hx hb dX0_readLine_163 rfl (lv_at hl 2 rfl) ?_
              refine va_get (D := (dC, dI)) (ci := 1) (v := .int (st78 4 5)) (C := RX0) (T := TX0) (N := 7) hx hb hts ii_X0_readLine_X0 hown hK hP 4 (xw_is (r := 4) (by omega) (xc_fix (r := 4) (by omega))) rfl 5 (by decide) (hts _ mm_X0_readLine_2) (fun _ hh => hh) rfl dX0_readLine_164 ?_
              refine zz_top (v := (nI gl)) (by show st78 4 5 = _; rw [est78, up2_ne (r := 8) (k := gl) (a := 4) (j := 5) _ _ (by omega), (hFst59 4 5 (by decide)).1, est57, up2_ne (r := 7) (k := gl) (a := 4) (j := 5) _ _ (by omega), (hFst43 4 5 (by decide)).1, hf7, h5]) ?_
              refine lv_aload_n hx hb dX0_readLine_167 rfl (lv_at hl 3 rfl) ?_
              refine va_getN (host := "OffTheLead") (D := (dC, dI)) (ci := 9) (v := .int (st78 1 12)) (C := RX8) (T := TX8) (N := 15) hx hb hts ii_X0_readLine_X8 hown hK hP 1 (xw_is (r := 1) (by omega) (xc_fix (r := 1) (by omega))) rfl 12 (by decide) (va_Nw.use rfl (nf_X0_116 hEv)) (fun _ hh => hh) rfl dX0_readLine_168 ?_
              obtain ⟨z79, ez79⟩ : ∃ y : Int32, st78 1 12 = y := ⟨_, rfl⟩
              refine zz_top (v := z79) (by exact ez79) ?_
              refine va_iast hx hb hK hP (xD hN _ _ _ _ _ _) hS 9 9 (xw_is (r := 9) (by omega) (xc_fix (r := 9) (by omega))) (xt_is (r := 9) (by omega) rfl) (i := (nI gl)) (vp_in_nI (by omega) (by decide)) dX0_readLine_171 (fun H locs hP _ hS => ?_)
              rw [nI_clamp (by omega)] at hP
              have hP : va_P (dC, dI) vwCl (xw A C nb (up2 st78 9 gl z79) sl60 so61) H := by rw [← xset (r := 9) (k := gl) (v := z79) (xc_fix (r := 9) (by omega))]; exact hP
              obtain ⟨st80, est80⟩ : ∃ y, y = up2 st78 9 gl z79 := ⟨_, rfl⟩
              have hG : XG [1, 2, 4, 5, 7, 8, 9, 12, 13, 14, 15] st st80 := by rw [est80]; exact hG.up (xz (r := 9) (k := gl) (by unfold xrg; rfl : xrg 9 gl = 0)) (xpn (c := 0) (by unfold xcl; rfl : xcl 9 gl = 0) (by decide))
              rw [← est80] at hP
              have hF : FX 6 st sl so st80 sl60 so61 := by rw [est80]; exact hF.up (dc_bk (o := 9) (by omega))
              have hR : CN c nm st80 sl60 0 := by rw [est80]; exact hR.up (by omega)
              refine lv_iload hx hb dX0_readLine_172 (lv_at hl 0 rfl) ?_
              exact W.zret (v := 0) hx hb hr rfl (fun t ht hW => ⟨⟨0, (st80, sl60, so61), rfl, ⟨hG, hO, hF, Or.inr (⟨n69, n70, rfl, by show st80 1 13 = _; rw [est80, up2_ne (r := 9) (k := gl) (a := 1) (j := 13) _ _ (by omega), est78, up2_ne (r := 8) (k := gl) (a := 1) (j := 13) _ _ (by omega), hf71], by show st80 1 14 = _; rw [est80, up2_ne (r := 9) (k := gl) (a := 1) (j := 14) _ _ (by omega), est78, up2_ne (r := 8) (k := gl) (a := 1) (j := 14) _ _ (by omega), hf72], hf73, (bMd_a (bMy_a hmy hf5)).trans ((bOf_h (by omega)).trans ((bPl_y (sNam_y hf50)).trans (sOf_f (hf74 kP) (by omega))))⟩)⟩, xB.of ht hP⟩, hS.F ht⟩) hS.2.2 dX0_readLine_174
          · have c8 : (tkw B g m p) = 8 := (EV.eqw hEv (i := (tkw B g m p)) (j := 8) (by omega) (by omega)).mp c8
            refine lv_iconst (v := 1) hx hb dX0_readLine_138 (by decide) ?_
            exact W.zret (v := 1) hx hb hr rfl (fun t ht hW => ⟨⟨1, (st57, sl44, so45), rfl, ⟨hG, hO, hF, Or.inl (⟨(tkx B g m (tkx B g m p)), rfl, hT, by show st57 1 13 = st 1 13; rw [est57, up2_ne (r := 7) (k := gl) (a := 1) (j := 13) _ _ (by omega), hf49, hf6], by show st57 4 5 = st 4 5; rw [est57, up2_ne (r := 7) (k := gl) (a := 4) (j := 5) _ _ (by omega), (hFst43 4 5 (by decide)).1, hf7], (bMd_a (bMy_a hmy hf5)).trans ((bOf_f (by omega)).trans (sNam_y hf50))⟩)⟩, xB.of ht hP⟩, hS.F ht⟩) hS.2.2 dX0_readLine_139
        · refine lv_if_ne (tgt := 118) hx hb dX0_readLine_113 (by decide) (fun cc => absurd (by decide) cc) (fun _ => ?_)
          refine lv_iconst (v := 0) hx hb dX0_readLine_116 (by decide) ?_
          have hof : bOf B g m c nm p = sf n51 n52 := by
            by_cases z8 : tkw B g m p = 8
            · exact (bOf_f z8).trans (sNam_f hf56 (by omega))
            · exact (bOf_h (by have h9 := hal9; omega)).trans (bPl_f (sNam_f hf56 (by omega)) (by omega))
          exact W.zret (v := 0) hx hb hr rfl (fun t ht hW => ⟨⟨0, (st43, sl44, so45), rfl, ⟨hG, hO, hF, Or.inr (⟨n51, n52, rfl, by show st43 1 13 = _; rw [hf53], by show st43 1 14 = _; rw [hf54], hf55, (bMd_a (bMy_a hmy hf5)).trans hof⟩)⟩, xB.of ht hP⟩, hS.F ht⟩) hS.2.2 dX0_readLine_117
      · have c6 : (tkw B g m p) = 12 := (EV.eqw hEv (i := (tkw B g m p)) (j := 12) (by omega) (by omega)).mp c6
        refine lv_aload_n hx hb dX0_readLine_65 rfl (lv_at hl 0 rfl) ?_
        refine va_gets (v := .ref (ad 12)) hx hb (EV.word hEv (i := 12) (by decide)) hS hown (hts _ mm_X0_readLine_7) (fun _ hh => hh) dX0_readLine_66 ?_
        refine lv_acmp_ne (rx := (some (ad (tkw B g m p)))) (ry := (some (ad 12))) (tgt := 82) hx hb dX0_readLine_69 (by decide) (fun hh => absurd ((EV.eqw hEv (i := (tkw B g m p)) (j := 12) (by omega) (by omega)).mpr (by omega)) hh) (fun _ => ?_)
        refine lv_aload_n hx hb dX0_readLine_72 rfl (lv_at hl 2 rfl) ?_
        refine lv_iconst (v := 1) hx hb dX0_readLine_73 (by decide) ?_
        refine lv_bipush (v := 30) hx hb dX0_readLine_74 (by decide) ?_
        refine va_calli (va_runV (As := [.int 1, .int 30]) (rest := []) ⟨hx, hb, hml, hown, hts⟩ (y_X8_takeNumber l dC dI ad E hEE A C nb _ hN st2 sl3 so23 1 30 B g m (tkx B g m p) (by omega) (by omega) hG.1 hO.1 (CBt.fr hB hF) hT) (cwV 2 hts gX0_readLine_X8_takeNumber rfl rfl rfl (by decide +kernel) ⟨Nat.le_of_ble_eq_true rfl, Nat.le_of_ble_eq_true rfl⟩) ⟨fun a U g mk q => ⟨q.1, xPre.blind hEE q.2⟩, va_recv hK hP (ci := 9) (q0 := 1) rfl (xw_is (r := 1) (by omega) (xc_fix (r := 1) (by omega))), fun U hU hW => ⟨rfl, xPre.of hEE hP hK hE hS hU hW⟩⟩ rfl rfl hl.1 rfl (lv_room (Nat.le_of_ble_eq_true rfl)) dX0_readLine_76 ⟨Nat.le_of_ble_eq_true rfl, Nat.le_of_ble_eq_true rfl⟩) hS (fun q _ h => XA.le hS.1 q h) (XA.le hS.1) (fun r81 x t H locs ht hvm hw hB9 _ _ hS => ?_)
        have hP := xB.at ht hB9
        clear hB9 ht hvm
        obtain ⟨st82, sl83, so84⟩ := x
        obtain ⟨hGst82, hOst82, hFst82, hw⟩ := hw
        dsimp only at hGst82 hOst82 hFst82 hw
        have hO : OG ad [3, 4] so so84 := hO.tr hOst82 (by decide)
        have hP : va_P (dC, dI) vwCl (xw A C nb st82 sl83 so84) _ := hP
        have hG : XG [1, 2, 4, 5, 7, 8, 9, 12, 13, 14, 15] st st82 := hG.tr hGst82 (by decide)
        have hF : FX 6 st sl so st82 sl83 so84 := hF.tr hFst82 (by omega) (by omega)
        have hR : CN c nm st82 sl83 0 := hR.fr0 hFst82
        rcases hw with ⟨rfl, hf85, hf86, hf87, hT, hf88, hf89⟩ | ⟨n90, n91, rfl, hf92, hf93, hf94, hf95⟩
        · have hp9 := hT.2.2.2.2.2.2
          have hk1 := tkd_lt (B := B) (g := g) (m := m) (p := (tkx B g m (tkx B g m p)))
          have hk2 := tkx_le (B := B) (g := g) (m := m) (p := (tkx B g m (tkx B g m p))) hp9
          have hk3 := tka_le (B := B) (g := g) (m := m) (p := (tkx B g m (tkx B g m p))) hp9 hB.2.2.1
          have hk4 := tkv_ltc (p := (tkx B g m (tkx B g m p))) hB hp9
          have hk5 := tkw_lt (B := B) (g := g) (m := m) (p := (tkx B g m (tkx B g m p)))
          refine lv_goto (tgt := 89) hx hb dX0_readLine_79 (by decide) ?_
          refine lv_istore (lv' := [(4, .int 1), (3, .ref (ad (tkw B g m p))), (0, .ref (A 4)), (1, .ref (A 1)), (2, .ref (A (36 + 20 * 0)))]) hx hb dX0_readLine_89 hl (by decide) rfl (fun ls hl => ?_)
          refine lv_aload_n hx hb dX0_readLine_91 rfl (lv_at hl 2 rfl) ?_
          refine va_get (D := (dC, dI)) (ci := 1) (v := .ref (A 6)) (C := RX0) (T := TX0) (N := 7) hx hb hts ii_X0_readLine_X0 hown hK hP 4 (xw_is (r := 4) (by omega) (xc_fix (r := 4) (by omega))) rfl 1 (by decide) (hts _ mm_X0_readLine_8) (fun _ hh => hh) rfl dX0_readLine_92 ?_
          refine lv_aload_n hx hb dX0_readLine_95 rfl (lv_at hl 2 rfl) ?_
          refine va_get (D := (dC, dI)) (ci := 1) (v := .int (st82 4 5)) (C := RX0) (T := TX0) (N := 7) hx hb hts ii_X0_readLine_X0 hown hK hP 4 (xw_is (r := 4) (by omega) (xc_fix (r := 4) (by omega))) rfl 5 (by decide) (hts _ mm_X0_readLine_2) (fun _ hh => hh) rfl dX0_readLine_96 ?_
          refine zz_top (v := (nI gl)) (by show st82 4 5 = _; rw [(hFst82 4 5 (by decide)).1, hf7, h5]) ?_
          refine lv_aload_n hx hb dX0_readLine_99 rfl (lv_at hl 3 rfl) ?_
          refine va_getN (host := "OffTheLead") (D := (dC, dI)) (ci := 9) (v := .int (st82 1 9)) (C := RX8) (T := TX8) (N := 15) hx hb hts ii_X0_readLine_X8 hown hK hP 1 (xw_is (r := 1) (by omega) (xc_fix (r := 1) (by omega))) rfl 9 (by decide) (va_Nw.use rfl (nf_X0_102 hEv)) (fun _ hh => hh) rfl dX0_readLine_100 ?_
          refine zz_top (v := (nI (tkv B g (tkx B g m p)))) (by show st82 1 9 = _; rw [hf87]) ?_
          refine va_iast hx hb hK hP (xD hN _ _ _ _ _ _) hS 6 6 (xw_is (r := 6) (by omega) (xc_fix (r := 6) (by omega))) (xt_is (r := 6) (by omega) rfl) (i := (nI gl)) (vp_in_nI (by omega) (by decide)) dX0_readLine_103 (fun H locs hP _ hS => ?_)
          rw [nI_clamp (by omega)] at hP
          have hP : va_P (dC, dI) vwCl (xw A C nb (up2 st82 6 gl (nI (tkv B g (tkx B g m p)))) sl83 so84) H := by rw [← xset (r := 6) (k := gl) (v := (nI (tkv B g (tkx B g m p)))) (xc_fix (r := 6) (by omega))]; exact hP
          obtain ⟨st96, est96⟩ : ∃ y, y = up2 st82 6 gl (nI (tkv B g (tkx B g m p))) := ⟨_, rfl⟩
          have hG : XG [1, 2, 4, 5, 7, 8, 9, 12, 13, 14, 15] st st96 := by rw [est96]; exact hG.up (xz (r := 6) (k := gl) (by unfold xrg; rfl : xrg 6 gl = 0)) (xpn (c := 3) (by unfold xcl; rfl : xcl 6 gl = 3) (by decide))
          rw [← est96] at hP
          have hF : FX 6 st sl so st96 sl83 so84 := by rw [est96]; exact hF.up (dc_bk (o := 6) (by omega))
          have hT : TC B g m (tkx B g m (tkx B g m p)) ad st96 sl83 so84 := by rw [est96]; exact hT.up (by omega)
          have hR : CN c nm st96 sl83 0 := by rw [est96]; exact hR.up (by omega)
          refine lv_iload hx hb dX0_readLine_104 (lv_at hl 0 rfl) ?_
          exact W.zret (v := 1) hx hb hr rfl (fun t ht hW => ⟨⟨1, (st96, sl83, so84), rfl, ⟨hG, hO, hF, Or.inl (⟨(tkx B g m (tkx B g m p)), rfl, hT, by show st96 1 13 = st 1 13; rw [est96, up2_ne (r := 6) (k := gl) (a := 1) (j := 13) _ _ (by omega), hf88, hf6], by show st96 4 5 = st 4 5; rw [est96, up2_ne (r := 6) (k := gl) (a := 4) (j := 5) _ _ (by omega), (hFst82 4 5 (by decide)).1, hf7], (bMd_a (bMy_a hmy hf5)).trans ((bOf_d (by omega)).trans (sOf_y (hf89 _)))⟩)⟩, xB.of ht hP⟩, hS.F ht⟩) hS.2.2 dX0_readLine_106
        · refine lv_goto (tgt := 89) hx hb dX0_readLine_79 (by decide) ?_
          refine lv_istore (lv' := [(4, .int 0), (3, .ref (ad (tkw B g m p))), (0, .ref (A 4)), (1, .ref (A 1)), (2, .ref (A (36 + 20 * 0)))]) hx hb dX0_readLine_89 hl (by decide) rfl (fun ls hl => ?_)
          refine lv_aload_n hx hb dX0_readLine_91 rfl (lv_at hl 2 rfl) ?_
          refine va_get (D := (dC, dI)) (ci := 1) (v := .ref (A 6)) (C := RX0) (T := TX0) (N := 7) hx hb hts ii_X0_readLine_X0 hown hK hP 4 (xw_is (r := 4) (by omega) (xc_fix (r := 4) (by omega))) rfl 1 (by decide) (hts _ mm_X0_readLine_8) (fun _ hh => hh) rfl dX0_readLine_92 ?_
          refine lv_aload_n hx hb dX0_readLine_95 rfl (lv_at hl 2 rfl) ?_
          refine va_get (D := (dC, dI)) (ci := 1) (v := .int (st82 4 5)) (C := RX0) (T := TX0) (N := 7) hx hb hts ii_X0_readLine_X0 hown hK hP 4 (xw_is (r := 4) (by omega) (xc_fix (r := 4) (by omega))) rfl 5 (by decide) (hts _ mm_X0_readLine_2) (fun _ hh => hh) rfl dX0_readLine_96 ?_
          refine zz_top (v := (nI gl)) (by show st82 4 5 = _; rw [(hFst82 4 5 (by decide)).1, hf7, h5]) ?_
          refine lv_aload_n hx hb dX0_readLine_99 rfl (lv_at hl 3 rfl) ?_
          refine va_getN (host := "OffTheLead") (D := (dC, dI)) (ci := 9) (v := .int (st82 1 9)) (C := RX8) (T := TX8) (N := 15) hx hb hts ii_X0_readLine_X8 hown hK hP 1 (xw_is (r := 1) (by omega) (xc_fix (r := 1) (by omega))) rfl 9 (by decide) (va_Nw.use rfl (nf_X0_102 hEv)) (fun _ hh => hh) rfl dX0_readLine_100 ?_
          obtain ⟨z97, ez97⟩ : ∃ y : Int32, st82 1 9 = y := ⟨_, rfl⟩
          refine zz_top (v := z97) (by exact ez97) ?_
          refine va_iast hx hb hK hP (xD hN _ _ _ _ _ _) hS 6 6 (xw_is (r := 6) (by omega) (xc_fix (r := 6) (by omega))) (xt_is (r := 6) (by omega) rfl) (i := (nI gl)) (vp_in_nI (by omega) (by decide)) dX0_readLine_103 (fun H locs hP _ hS => ?_)
          rw [nI_clamp (by omega)] at hP
          have hP : va_P (dC, dI) vwCl (xw A C nb (up2 st82 6 gl z97) sl83 so84) H := by rw [← xset (r := 6) (k := gl) (v := z97) (xc_fix (r := 6) (by omega))]; exact hP
          obtain ⟨st98, est98⟩ : ∃ y, y = up2 st82 6 gl z97 := ⟨_, rfl⟩
          have hG : XG [1, 2, 4, 5, 7, 8, 9, 12, 13, 14, 15] st st98 := by rw [est98]; exact hG.up (xz (r := 6) (k := gl) (by unfold xrg; rfl : xrg 6 gl = 0)) (xpn (c := 3) (by unfold xcl; rfl : xcl 6 gl = 3) (by decide))
          rw [← est98] at hP
          have hF : FX 6 st sl so st98 sl83 so84 := by rw [est98]; exact hF.up (dc_bk (o := 6) (by omega))
          have hR : CN c nm st98 sl83 0 := by rw [est98]; exact hR.up (by omega)
          refine lv_iload hx hb dX0_readLine_104 (lv_at hl 0 rfl) ?_
          exact W.zret (v := 0) hx hb hr rfl (fun t ht hW => ⟨⟨0, (st98, sl83, so84), rfl, ⟨hG, hO, hF, Or.inr (⟨n90, n91, rfl, by show st98 1 13 = _; rw [est98, up2_ne (r := 6) (k := gl) (a := 1) (j := 13) _ _ (by omega), hf92], by show st98 1 14 = _; rw [est98, up2_ne (r := 6) (k := gl) (a := 1) (j := 14) _ _ (by omega), hf93], hf94, (bMd_a (bMy_a hmy hf5)).trans ((bOf_d (by omega)).trans (sOf_f (hf95 _) (by omega)))⟩)⟩, xB.of ht hP⟩, hS.F ht⟩) hS.2.2 dX0_readLine_106
  · have hp9 := hT.2.2.2.2.2.2
    have hk1 := tkd_lt (B := B) (g := g) (m := m) (p := (tkx B g m (tkx B g m p)))
    have hk2 := tkx_le (B := B) (g := g) (m := m) (p := (tkx B g m (tkx B g m p))) hp9
    have hk3 := tka_le (B := B) (g := g) (m := m) (p := (tkx B g m (tkx B g m p))) hp9 hB.2.2.1
    have hk4 := tkv_ltc (p := (tkx B g m (tkx B g m p))) hB hp9
    have hk5 := tkw_lt (B := B) (g := g) (m := m) (p := (tkx B g m (tkx B g m p)))
    refine lv_astore_n (lv' := [(3, .ref (ad (tkw B g m (tkx B g m p)))), (0, .ref (A 4)), (1, .ref (A 1)), (2, .ref (A (36 + 20 * 0)))]) hx hb dX0_readLine_6 rfl hl (by decide) rfl (fun ls hl => ?_)
    refine lv_aload_n hx hb dX0_readLine_7 rfl (lv_at hl 1 rfl) ?_
    refine va_get (D := (dC, dI)) (ci := 1) (v := .ref (A 5)) (C := RX0) (T := TX0) (N := 7) hx hb hts ii_X0_readLine_X0 hown hK hP 4 (xw_is (r := 4) (by omega) (xc_fix (r := 4) (by omega))) rfl 0 (by decide) (hts _ mm_X0_readLine_1) (fun _ hh => hh) rfl dX0_readLine_8 ?_
    refine lv_aload_n hx hb dX0_readLine_11 rfl (lv_at hl 1 rfl) ?_
    refine va_get (D := (dC, dI)) (ci := 1) (v := .int (st2 4 5)) (C := RX0) (T := TX0) (N := 7) hx hb hts ii_X0_readLine_X0 hown hK hP 4 (xw_is (r := 4) (by omega) (xc_fix (r := 4) (by omega))) rfl 5 (by decide) (hts _ mm_X0_readLine_2) (fun _ hh => hh) rfl dX0_readLine_12 ?_
    refine zz_top (v := (nI gl)) (by show st2 4 5 = _; rw [hf12, h5]) ?_
    refine lv_aload_n hx hb dX0_readLine_15 rfl (lv_at hl 0 rfl) ?_
    refine zz_astw (x := (some (ad (tkw B g m (tkx B g m p))))) hx hb hEv hK hP (xD hN _ _ _ _ _ _) hS 5 5 (xw_is (r := 5) (by omega) (xc_fix (r := 5) (by omega))) (xt_is (r := 5) (by omega) rfl) (isW.of (by omega)) (i := (nI gl)) (vp_in_nI (by omega) (by decide)) dX0_readLine_16 (fun H locs hP _ hS => ?_)
    rw [nI_clamp (by omega)] at hP
    have hP : va_P (dC, dI) vwCl (xw A C nb st2 sl3 (upO so4 5 gl (some (ad (tkw B g m (tkx B g m p)))))) H := by rw [← xsetO (r := 5) (k := gl) (v := (some (ad (tkw B g m (tkx B g m p))))) (xc_fix (r := 5) (by omega))]; exact hP
    obtain ⟨so99, eso99⟩ : ∃ y, y = upO so4 5 gl (some (ad (tkw B g m (tkx B g m p)))) := ⟨_, rfl⟩
    have hO : OG ad [3, 4] so so99 := by rw [eso99]; exact hO.up (isW.of (by omega)) (fun hh => absurd hh (by omega)) (by decide)
    rw [← eso99] at hP
    have hF : FX 6 st sl so st2 sl3 so99 := by rw [eso99]; exact hF.upO (dc_bk (o := 5) (by omega))
    have hT : TC B g m (tkx B g m (tkx B g m p)) ad st2 sl3 so99 := by rw [eso99]; exact hT.upO (by omega)
    refine lv_aload_n hx hb dX0_readLine_17 rfl (lv_at hl 0 rfl) ?_
    refine va_gets (v := .ref (ad 25)) hx hb (EV.word hEv (i := 25) (by decide)) hS hown (hts _ mm_X0_readLine_3) (fun _ hh => hh) dX0_readLine_18 ?_
    refine lv_acmp_eq (rx := (some (ad (tkw B g m (tkx B g m p))))) (ry := (some (ad 25))) (tgt := 38) hx hb dX0_readLine_21 (by decide) (fun hh => absurd ((EV.eqw hEv (i := (tkw B g m (tkx B g m p))) (j := 25) (by omega) (by omega)).mp hh) (by omega)) (fun _ => ?_)
    refine lv_aload_n hx hb dX0_readLine_24 rfl (lv_at hl 0 rfl) ?_
    refine va_gets (v := .ref (ad 9)) hx hb (EV.word hEv (i := 9) (by decide)) hS hown (hts _ mm_X0_readLine_4) (fun _ hh => hh) dX0_readLine_25 ?_
    refine lv_acmp_eq (rx := (some (ad (tkw B g m (tkx B g m p))))) (ry := (some (ad 9))) (tgt := 38) hx hb dX0_readLine_28 (by decide) (fun c12 => ?_) (fun c12 => ?_)
    · have c12 : (tkw B g m (tkx B g m p)) = 9 := (EV.eqw hEv (i := (tkw B g m (tkx B g m p))) (j := 9) (by omega) (by omega)).mp c12
      refine lv_aload_n hx hb dX0_readLine_38 rfl (lv_at hl 0 rfl) ?_
      refine va_gets (v := .ref (ad 25)) hx hb (EV.word hEv (i := 25) (by decide)) hS hown (hts _ mm_X0_readLine_3) (fun _ hh => hh) dX0_readLine_39 ?_
      refine lv_acmp_eq (rx := (some (ad (tkw B g m (tkx B g m p))))) (ry := (some (ad 25))) (tgt := 49) hx hb dX0_readLine_42 (by decide) (fun hh => absurd ((EV.eqw hEv (i := (tkw B g m (tkx B g m p))) (j := 25) (by omega) (by omega)).mp hh) (by omega)) (fun _ => ?_)
      refine lv_iconst (v := 1) hx hb dX0_readLine_45 (by decide) ?_
      refine lv_goto (tgt := 50) hx hb dX0_readLine_46 (by decide) ?_
      exact W.zret (v := 1) hx hb hr rfl (fun t ht hW => ⟨⟨1, (st2, sl3, so99), rfl, ⟨hG, hO, hF, Or.inl (⟨(tkx B g m (tkx B g m p)), rfl, hT, by show st2 1 13 = st 1 13; rw [hf11], by show st2 4 5 = st 4 5; rw [hf12], (bMd_d (show ¬ (tkw B g m p = 6 ∨ tkw B g m p = 7 ∨ tkw B g m p = 8 ∨ tkw B g m p = 5 ∨ tkw B g m p = 12) by omega) hf9).trans (bDg_y hf10)⟩)⟩, xB.of ht hP⟩, hS.F ht⟩) hS.2.2 dX0_readLine_50
    · have c12 : ¬ (tkw B g m (tkx B g m p)) = 9 := fun hh => c12 ((EV.eqw hEv (i := (tkw B g m (tkx B g m p))) (j := 9) (by omega) (by omega)).mpr hh)
      refine lv_aload_n hx hb dX0_readLine_31 rfl (lv_at hl 0 rfl) ?_
      refine va_gets (v := .ref (ad 10)) hx hb (EV.word hEv (i := 10) (by decide)) hS hown (hts _ mm_X0_readLine_5) (fun _ hh => hh) dX0_readLine_32 ?_
      refine lv_acmp_ne (rx := (some (ad (tkw B g m (tkx B g m p))))) (ry := (some (ad 10))) (tgt := 51) hx hb dX0_readLine_35 (by decide) (fun c14 => ?_) (fun c14 => ?_)
      · have c14 : ¬ (tkw B g m (tkx B g m p)) = 10 := fun hh => c14 ((EV.eqw hEv (i := (tkw B g m (tkx B g m p))) (j := 10) (by omega) (by omega)).mpr hh)
        refine lv_aload_n hx hb dX0_readLine_51 rfl (lv_at hl 0 rfl) ?_
        refine va_gets (v := .ref (ad 5)) hx hb (EV.word hEv (i := 5) (by decide)) hS hown (hts _ mm_X0_readLine_6) (fun _ hh => hh) dX0_readLine_52 ?_
        refine lv_acmp_eq (rx := (some (ad (tkw B g m (tkx B g m p))))) (ry := (some (ad 5))) (tgt := 65) hx hb dX0_readLine_55 (by decide) (fun hh => absurd ((EV.eqw hEv (i := (tkw B g m (tkx B g m p))) (j := 5) (by omega) (by omega)).mp hh) (by omega)) (fun _ => ?_)
        refine lv_aload_n hx hb dX0_readLine_58 rfl (lv_at hl 0 rfl) ?_
        refine va_gets (v := .ref (ad 12)) hx hb (EV.word hEv (i := 12) (by decide)) hS hown (hts _ mm_X0_readLine_7) (fun _ hh => hh) dX0_readLine_59 ?_
        refine lv_acmp_ne (rx := (some (ad (tkw B g m (tkx B g m p))))) (ry := (some (ad 12))) (tgt := 107) hx hb dX0_readLine_62 (by decide) (fun _ => ?_) (fun hh => absurd ((EV.eqw hEv (i := (tkw B g m (tkx B g m p))) (j := 12) (by omega) (by omega)).mp hh) (by omega))
        refine lv_aload_n hx hb dX0_readLine_107 rfl (lv_at hl 2 rfl) ?_
        refine lv_aload_n hx hb dX0_readLine_108 rfl (lv_at hl 3 rfl) ?_
        refine lv_iconst (v := 0) hx hb dX0_readLine_109 (by decide) ?_
        refine va_calli (va_runV (As := [.ref (A (36 + 20 * 0)), .int 0]) (rest := []) ⟨hx, hb, hml, hown, hts⟩ (y_takeNamem0 l dC dI ad E hEE A C nb _ hN st2 sl3 so99 B g m (tkx B g m (tkx B g m p)) c nm hG.1 hO.1 (CBt.fr hB hF) hT hR) (cwV 2 hts gX0_readLine_X8_takeNamed rfl rfl rfl (by decide +kernel) ⟨Nat.le_of_ble_eq_true rfl, Nat.le_of_ble_eq_true rfl⟩) ⟨fun a U g mk q => ⟨q.1, xPre.blind hEE q.2⟩, va_recv hK hP (ci := 9) (q0 := 1) rfl (xw_is (r := 1) (by omega) (xc_fix (r := 1) (by omega))), fun U hU hW => ⟨rfl, xPre.of hEE hP hK hE hS hU hW⟩⟩ rfl rfl hl.1 rfl (lv_room (Nat.le_of_ble_eq_true rfl)) dX0_readLine_110 ⟨Nat.le_of_ble_eq_true rfl, Nat.le_of_ble_eq_true rfl⟩) hS (fun q _ h => XA.le hS.1 q h) (XA.le hS.1) (fun r100 x t H locs ht hvm hw hB9 _ _ hS => ?_)
        have hP := xB.at ht hB9
        clear hB9 ht hvm
        obtain ⟨st101, sl102, so103⟩ := x
        obtain ⟨hGst101, hOst101, hFst101, hw⟩ := hw
        dsimp only at hGst101 hOst101 hFst101 hw
        have hO : OG ad [3, 4] so so103 := hO.tr hOst101 (by decide)
        have hP : va_P (dC, dI) vwCl (xw A C nb st101 sl102 so103) _ := hP
        have hG : XG [1, 2, 4, 5, 7, 8, 9, 12, 13, 14, 15] st st101 := hG.tr hGst101 (by decide)
        have hF : FX 6 st sl so st101 sl102 so103 := hF.tr hFst101 (by omega) (by omega)
        have hR : CN c nm st101 sl102 0 := hR.fr0 hFst101
        rcases hw with ⟨n104, rfl, hf105, hf106, hT, hf107, hf108⟩ | ⟨n109, n110, rfl, hf111, hf112, hf113, hf114⟩
        · have hp9 := hT.2.2.2.2.2.2
          have hk1 := tkd_lt (B := B) (g := g) (m := m) (p := (tkx B g m (tkx B g m (tkx B g m p))))
          have hk2 := tkx_le (B := B) (g := g) (m := m) (p := (tkx B g m (tkx B g m (tkx B g m p)))) hp9
          have hk3 := tka_le (B := B) (g := g) (m := m) (p := (tkx B g m (tkx B g m (tkx B g m p)))) hp9 hB.2.2.1
          have hk4 := tkv_ltc (p := (tkx B g m (tkx B g m (tkx B g m p)))) hB hp9
          have hk5 := tkw_lt (B := B) (g := g) (m := m) (p := (tkx B g m (tkx B g m (tkx B g m p))))
          refine lv_if_ne (tgt := 118) hx hb dX0_readLine_113 (by decide) (fun _ => ?_) (fun cc => absurd cc (by decide))
          refine lv_aload_n hx hb dX0_readLine_118 rfl (lv_at hl 1 rfl) ?_
          refine va_get (D := (dC, dI)) (ci := 1) (v := .ref (A 7)) (C := RX0) (T := TX0) (N := 7) hx hb hts ii_X0_readLine_X0 hown hK hP 4 (xw_is (r := 4) (by omega) (xc_fix (r := 4) (by omega))) rfl 2 (by decide) (hts _ mm_X0_readLine_9) (fun _ hh => hh) rfl dX0_readLine_119 ?_
          refine lv_aload_n hx hb dX0_readLine_122 rfl (lv_at hl 1 rfl) ?_
          refine va_get (D := (dC, dI)) (ci := 1) (v := .int (st101 4 5)) (C := RX0) (T := TX0) (N := 7) hx hb hts ii_X0_readLine_X0 hown hK hP 4 (xw_is (r := 4) (by omega) (xc_fix (r := 4) (by omega))) rfl 5 (by decide) (hts _ mm_X0_readLine_2) (fun _ hh => hh) rfl dX0_readLine_123 ?_
          refine zz_top (v := (nI gl)) (by show st101 4 5 = _; rw [(hFst101 4 5 (by decide)).1, hf12, h5]) ?_
          refine lv_aload_n hx hb dX0_readLine_126 rfl (lv_at hl 2 rfl) ?_
          refine va_getN (host := "OffTheLead") (D := (dC, dI)) (ci := 9) (v := .int (st101 1 9)) (C := RX8) (T := TX8) (N := 15) hx hb hts ii_X0_readLine_X8 hown hK hP 1 (xw_is (r := 1) (by omega) (xc_fix (r := 1) (by omega))) rfl 9 (by decide) (va_Nw.use rfl (nf_X0_102 hEv)) (fun _ hh => hh) rfl dX0_readLine_127 ?_
          refine zz_top (v := (nI n104)) (by show st101 1 9 = _; rw [hf106]) ?_
          refine va_iast hx hb hK hP (xD hN _ _ _ _ _ _) hS 7 7 (xw_is (r := 7) (by omega) (xc_fix (r := 7) (by omega))) (xt_is (r := 7) (by omega) rfl) (i := (nI gl)) (vp_in_nI (by omega) (by decide)) dX0_readLine_130 (fun H locs hP _ hS => ?_)
          rw [nI_clamp (by omega)] at hP
          have hP : va_P (dC, dI) vwCl (xw A C nb (up2 st101 7 gl (nI n104)) sl102 so103) H := by rw [← xset (r := 7) (k := gl) (v := (nI n104)) (xc_fix (r := 7) (by omega))]; exact hP
          obtain ⟨st115, est115⟩ : ∃ y, y = up2 st101 7 gl (nI n104) := ⟨_, rfl⟩
          have hG : XG [1, 2, 4, 5, 7, 8, 9, 12, 13, 14, 15] st st115 := by rw [est115]; exact hG.up (xn (n := n104) (b := 5) (by unfold xrg; rfl : xrg 7 gl = 5) (by omega)) (xpn (c := 0) (by unfold xcl; rfl : xcl 7 gl = 0) (by decide))
          rw [← est115] at hP
          have hF : FX 6 st sl so st115 sl102 so103 := by rw [est115]; exact hF.up (dc_bk (o := 7) (by omega))
          have hT : TC B g m (tkx B g m (tkx B g m (tkx B g m p))) ad st115 sl102 so103 := by rw [est115]; exact hT.up (by omega)
          have hR : CN c nm st115 sl102 0 := by rw [est115]; exact hR.up (by omega)
          refine lv_aload_n hx hb dX0_readLine_131 rfl (lv_at hl 0 rfl) ?_
          refine va_gets (v := .ref (ad 8)) hx hb (EV.word hEv (i := 8) (by decide)) hS hown (hts _ mm_X0_readLine_10) (fun _ hh => hh) dX0_readLine_132 ?_
          refine lv_acmp_ne (rx := (some (ad (tkw B g m (tkx B g m p))))) (ry := (some (ad 8))) (tgt := 140) hx hb dX0_readLine_135 (by decide) (fun _ => ?_) (fun hh => absurd ((EV.eqw hEv (i := (tkw B g m (tkx B g m p))) (j := 8) (by omega) (by omega)).mp hh) (by omega))
          refine lv_aload_n hx hb dX0_readLine_140 rfl (lv_at hl 2 rfl) ?_
          refine va_calli (va_runV (As := []) (rest := []) ⟨hx, hb, hml, hown, hts⟩ (y_X8_takeHours l dC dI ad E hEE A C nb _ hN st115 sl102 so103 B g m (tkx B g m (tkx B g m (tkx B g m p))) hG.1 hO.1 (CBt.fr hB hF) hT) (cwV 0 hts gX0_readLine_X8_takeHours rfl rfl rfl (by decide +kernel) ⟨Nat.le_of_ble_eq_true rfl, Nat.le_of_ble_eq_true rfl⟩) ⟨fun a U g mk q => ⟨q.1, xPre.blind hEE q.2⟩, va_recv hK hP (ci := 9) (q0 := 1) rfl (xw_is (r := 1) (by omega) (xc_fix (r := 1) (by omega))), fun U hU hW => ⟨rfl, xPre.of hEE hP hK hE hS hU hW⟩⟩ rfl rfl hl.1 rfl (lv_room (Nat.le_of_ble_eq_true rfl)) dX0_readLine_141 ⟨Nat.le_of_ble_eq_true rfl, Nat.le_of_ble_eq_true rfl⟩) hS (fun q _ h => XA.le hS.1 q h) (XA.le hS.1) (fun r116 x t H locs ht hvm hw hB9 _ _ hS => ?_)
          have hP := xB.at ht hB9
          clear hB9 ht hvm
          obtain ⟨st117, sl118, so119⟩ := x
          obtain ⟨hGst117, hOst117, hFst117, hw⟩ := hw
          dsimp only at hGst117 hOst117 hFst117 hw
          have hO : OG ad [3, 4] so so119 := hO.tr hOst117 (by decide)
          have hP : va_P (dC, dI) vwCl (xw A C nb st117 sl118 so119) _ := hP
          have hG : XG [1, 2, 4, 5, 7, 8, 9, 12, 13, 14, 15] st st117 := hG.tr hGst117 (by decide)
          have hF : FX 6 st sl so st117 sl118 so119 := hF.tr hFst117 (by omega) (by omega)
          have hR : CN c nm st117 sl118 0 := hR.fr0 hFst117
          rcases hw with ⟨rfl, hf120, hf121, hf122, hf123, hT, hf124, hf125, hf126⟩ | ⟨n127, n128, rfl, hf129, hf130, hf131, hf132⟩
          · have hp9 := hT.2.2.2.2.2.2
            have hk1 := tkd_lt (B := B) (g := g) (m := m) (p := (tkx B g m (tkx B g m (tkx B g m (tkx B g m (tkx B g m p))))))
            have hk2 := tkx_le (B := B) (g := g) (m := m) (p := (tkx B g m (tkx B g m (tkx B g m (tkx B g m (tkx B g m p)))))) hp9
            have hk3 := tka_le (B := B) (g := g) (m := m) (p := (tkx B g m (tkx B g m (tkx B g m (tkx B g m (tkx B g m p)))))) hp9 hB.2.2.1
            have hk4 := tkv_ltc (p := (tkx B g m (tkx B g m (tkx B g m (tkx B g m (tkx B g m p)))))) hB hp9
            have hk5 := tkw_lt (B := B) (g := g) (m := m) (p := (tkx B g m (tkx B g m (tkx B g m (tkx B g m (tkx B g m p))))))
            refine lv_istore (lv' := [(4, .int 1), (3, .ref (ad (tkw B g m (tkx B g m p)))), (0, .ref (A 4)), (1, .ref (A 1)), (2, .ref (A (36 + 20 * 0)))]) hx hb dX0_readLine_144 hl (by decide) rfl (fun ls hl => ?_)
            refine lv_aload_n hx hb dX0_readLine_146 rfl (lv_at hl 2 rfl) ?_
            refine va_get (D := (dC, dI)) (ci := 1) (v := .ref (A 8)) (C := RX0) (T := TX0) (N := 7) hx hb hts ii_X0_readLine_X0 hown hK hP 4 (xw_is (r := 4) (by omega) (xc_fix (r := 4) (by omega))) rfl 3 (by decide) (hts _ mm_X0_readLine_11) (fun _ hh => hh) rfl dX0_readLine_147 ?_
            refine lv_aload_n hx hb dX0_readLine_150 rfl (lv_at hl 2 rfl) ?_
            refine va_get (D := (dC, dI)) (ci := 1) (v := .int (st117 4 5)) (C := RX0) (T := TX0) (N := 7) hx hb hts ii_X0_readLine_X0 hown hK hP 4 (xw_is (r := 4) (by omega) (xc_fix (r := 4) (by omega))) rfl 5 (by decide) (hts _ mm_X0_readLine_2) (fun _ hh => hh) rfl dX0_readLine_151 ?_
            refine zz_top (v := (nI gl)) (by show st117 4 5 = _; rw [(hFst117 4 5 (by decide)).1, est115, up2_ne (r := 7) (k := gl) (a := 4) (j := 5) _ _ (by omega), (hFst101 4 5 (by decide)).1, hf12, h5]) ?_
            refine lv_aload_n hx hb dX0_readLine_154 rfl (lv_at hl 3 rfl) ?_
            refine va_getN (host := "OffTheLead") (D := (dC, dI)) (ci := 9) (v := .int (st117 1 11)) (C := RX8) (T := TX8) (N := 15) hx hb hts ii_X0_readLine_X8 hown hK hP 1 (xw_is (r := 1) (by omega) (xc_fix (r := 1) (by omega))) rfl 11 (by decide) (va_Nw.use rfl (nf_X0_113 hEv)) (fun _ hh => hh) rfl dX0_readLine_155 ?_
            refine zz_top (v := (nI (tkv B g (tkx B g m (tkx B g m (tkx B g m p)))))) (by show st117 1 11 = _; rw [hf120]) ?_
            refine va_iast hx hb hK hP (xD hN _ _ _ _ _ _) hS 8 8 (xw_is (r := 8) (by omega) (xc_fix (r := 8) (by omega))) (xt_is (r := 8) (by omega) rfl) (i := (nI gl)) (vp_in_nI (by omega) (by decide)) dX0_readLine_158 (fun H locs hP _ hS => ?_)
            rw [nI_clamp (by omega)] at hP
            have hP : va_P (dC, dI) vwCl (xw A C nb (up2 st117 8 gl (nI (tkv B g (tkx B g m (tkx B g m (tkx B g m p)))))) sl118 so119) H := by rw [← xset (r := 8) (k := gl) (v := (nI (tkv B g (tkx B g m (tkx B g m (tkx B g m p)))))) (xc_fix (r := 8) (by omega))]; exact hP
            obtain ⟨st133, est133⟩ : ∃ y, y = up2 st117 8 gl (nI (tkv B g (tkx B g m (tkx B g m (tkx B g m p))))) := ⟨_, rfl⟩
            have hG : XG [1, 2, 4, 5, 7, 8, 9, 12, 13, 14, 15] st st133 := by rw [est133]; exact hG.up (xz (r := 8) (k := gl) (by unfold xrg; rfl : xrg 8 gl = 0)) (xpn (c := 0) (by unfold xcl; rfl : xcl 8 gl = 0) (by decide))
            rw [← est133] at hP
            have hF : FX 6 st sl so st133 sl118 so119 := by rw [est133]; exact hF.up (dc_bk (o := 8) (by omega))
            have hT : TC B g m (tkx B g m (tkx B g m (tkx B g m (tkx B g m (tkx B g m p))))) ad st133 sl118 so119 := by rw [est133]; exact hT.up (by omega)
            have hR : CN c nm st133 sl118 0 := by rw [est133]; exact hR.up (by omega)
            refine lv_aload_n hx hb dX0_readLine_159 rfl (lv_at hl 2 rfl) ?_
            refine va_get (D := (dC, dI)) (ci := 1) (v := .ref (A 9)) (C := RX0) (T := TX0) (N := 7) hx hb hts ii_X0_readLine_X0 hown hK hP 4 (xw_is (r := 4) (by omega) (xc_fix (r := 4) (by omega))) rfl 4 (by decide) (hts _ mm_X0_readLine_12) (fun _ hh => hh) rfl dX0_readLine_160 ?_
            refine lv_aload_n hx hb dX0_readLine_163 rfl (lv_at hl 2 rfl) ?_
            refine va_get (D := (dC, dI)) (ci := 1) (v := .int (st133 4 5)) (C := RX0) (T := TX0) (N := 7) hx hb hts ii_X0_readLine_X0 hown hK hP 4 (xw_is (r := 4) (by omega) (xc_fix (r := 4) (by omega))) rfl 5 (by decide) (hts _ mm_X0_readLine_2) (fun _ hh => hh) rfl dX0_readLine_164 ?_
            refine zz_top (v := (nI gl)) (by show st133 4 5 = _; rw [est133, up2_ne (r := 8) (k := gl) (a := 4) (j := 5) _ _ (by omega), (hFst117 4 5 (by decide)).1, est115, up2_ne (r := 7) (k := gl) (a := 4) (j := 5) _ _ (by omega), (hFst101 4 5 (by decide)).1, hf12, h5]) ?_
            refine lv_aload_n hx hb dX0_readLine_167 rfl (lv_at hl 3 rfl) ?_
            refine va_getN (host := "OffTheLead") (D := (dC, dI)) (ci := 9) (v := .int (st133 1 12)) (C := RX8) (T := TX8) (N := 15) hx hb hts ii_X0_readLine_X8 hown hK hP 1 (xw_is (r := 1) (by omega) (xc_fix (r := 1) (by omega))) rfl 12 (by decide) (va_Nw.use rfl (nf_X0_116 hEv)) (fun _ hh => hh) rfl dX0_readLine_168 ?_
            refine zz_top (v := (nI (tkv B g (tkx B g m (tkx B g m (tkx B g m (tkx B g m p))))))) (by show st133 1 12 = _; rw [est133, up2_ne (r := 8) (k := gl) (a := 1) (j := 12) _ _ (by omega), hf121]) ?_
            refine va_iast hx hb hK hP (xD hN _ _ _ _ _ _) hS 9 9 (xw_is (r := 9) (by omega) (xc_fix (r := 9) (by omega))) (xt_is (r := 9) (by omega) rfl) (i := (nI gl)) (vp_in_nI (by omega) (by decide)) dX0_readLine_171 (fun H locs hP _ hS => ?_)
            rw [nI_clamp (by omega)] at hP
            have hP : va_P (dC, dI) vwCl (xw A C nb (up2 st133 9 gl (nI (tkv B g (tkx B g m (tkx B g m (tkx B g m (tkx B g m p))))))) sl118 so119) H := by rw [← xset (r := 9) (k := gl) (v := (nI (tkv B g (tkx B g m (tkx B g m (tkx B g m (tkx B g m p))))))) (xc_fix (r := 9) (by omega))]; exact hP
            obtain ⟨st134, est134⟩ : ∃ y, y = up2 st133 9 gl (nI (tkv B g (tkx B g m (tkx B g m (tkx B g m (tkx B g m p)))))) := ⟨_, rfl⟩
            have hG : XG [1, 2, 4, 5, 7, 8, 9, 12, 13, 14, 15] st st134 := by rw [est134]; exact hG.up (xz (r := 9) (k := gl) (by unfold xrg; rfl : xrg 9 gl = 0)) (xpn (c := 0) (by unfold xcl; rfl : xcl 9 gl = 0) (by decide))
            rw [← est134] at hP
            have hF : FX 6 st sl so st134 sl118 so119 := by rw [est134]; exact hF.up (dc_bk (o := 9) (by omega))
            have hT : TC B g m (tkx B g m (tkx B g m (tkx B g m (tkx B g m (tkx B g m p))))) ad st134 sl118 so119 := by rw [est134]; exact hT.up (by omega)
            have hR : CN c nm st134 sl118 0 := by rw [est134]; exact hR.up (by omega)
            refine lv_iload hx hb dX0_readLine_172 (lv_at hl 0 rfl) ?_
            exact W.zret (v := 1) hx hb hr rfl (fun t ht hW => ⟨⟨1, (st134, sl118, so119), rfl, ⟨hG, hO, hF, (show False by omega).elim⟩, xB.of ht hP⟩, hS.F ht⟩) hS.2.2 dX0_readLine_174
          · refine lv_istore (lv' := [(4, .int 0), (3, .ref (ad (tkw B g m (tkx B g m p)))), (0, .ref (A 4)), (1, .ref (A 1)), (2, .ref (A (36 + 20 * 0)))]) hx hb dX0_readLine_144 hl (by decide) rfl (fun ls hl => ?_)
            refine lv_aload_n hx hb dX0_readLine_146 rfl (lv_at hl 2 rfl) ?_
            refine va_get (D := (dC, dI)) (ci := 1) (v := .ref (A 8)) (C := RX0) (T := TX0) (N := 7) hx hb hts ii_X0_readLine_X0 hown hK hP 4 (xw_is (r := 4) (by omega) (xc_fix (r := 4) (by omega))) rfl 3 (by decide) (hts _ mm_X0_readLine_11) (fun _ hh => hh) rfl dX0_readLine_147 ?_
            refine lv_aload_n hx hb dX0_readLine_150 rfl (lv_at hl 2 rfl) ?_
            refine va_get (D := (dC, dI)) (ci := 1) (v := .int (st117 4 5)) (C := RX0) (T := TX0) (N := 7) hx hb hts ii_X0_readLine_X0 hown hK hP 4 (xw_is (r := 4) (by omega) (xc_fix (r := 4) (by omega))) rfl 5 (by decide) (hts _ mm_X0_readLine_2) (fun _ hh => hh) rfl dX0_readLine_151 ?_
            refine zz_top (v := (nI gl)) (by show st117 4 5 = _; rw [(hFst117 4 5 (by decide)).1, est115, up2_ne (r := 7) (k := gl) (a := 4) (j := 5) _ _ (by omega), (hFst101 4 5 (by decide)).1, hf12, h5]) ?_
            refine lv_aload_n hx hb dX0_readLine_154 rfl (lv_at hl 3 rfl) ?_
            refine va_getN (host := "OffTheLead") (D := (dC, dI)) (ci := 9) (v := .int (st117 1 11)) (C := RX8) (T := TX8) (N := 15) hx hb hts ii_X0_readLine_X8 hown hK hP 1 (xw_is (r := 1) (by omega) (xc_fix (r := 1) (by omega))) rfl 11 (by decide) (va_Nw.use rfl (nf_X0_113 hEv)) (fun _ hh => hh) rfl dX0_readLine_155 ?_
            obtain ⟨z135, ez135⟩ : ∃ y : Int32, st117 1 11 = y := ⟨_, rfl⟩
            refine zz_top (v := z135) (by exact ez135) ?_
            refine va_iast hx hb hK hP (xD hN _ _ _ _ _ _) hS 8 8 (xw_is (r := 8) (by omega) (xc_fix (r := 8) (by omega))) (xt_is (r := 8) (by omega) rfl) (i := (nI gl)) (vp_in_nI (by omega) (by decide)) dX0_readLine_158 (fun H locs hP _ hS => ?_)
            rw [nI_clamp (by omega)] at hP
            have hP : va_P (dC, dI) vwCl (xw A C nb (up2 st117 8 gl z135) sl118 so119) H := by rw [← xset (r := 8) (k := gl) (v := z135) (xc_fix (r := 8) (by omega))]; exact hP
            obtain ⟨st136, est136⟩ : ∃ y, y = up2 st117 8 gl z135 := ⟨_, rfl⟩
            have hG : XG [1, 2, 4, 5, 7, 8, 9, 12, 13, 14, 15] st st136 := by rw [est136]; exact hG.up (xz (r := 8) (k := gl) (by unfold xrg; rfl : xrg 8 gl = 0)) (xpn (c := 0) (by unfold xcl; rfl : xcl 8 gl = 0) (by decide))
            rw [← est136] at hP
            have hF : FX 6 st sl so st136 sl118 so119 := by rw [est136]; exact hF.up (dc_bk (o := 8) (by omega))
            have hR : CN c nm st136 sl118 0 := by rw [est136]; exact hR.up (by omega)
            refine lv_aload_n hx hb dX0_readLine_159 rfl (lv_at hl 2 rfl) ?_
            refine va_get (D := (dC, dI)) (ci := 1) (v := .ref (A 9)) (C := RX0) (T := TX0) (N := 7) hx hb hts ii_X0_readLine_X0 hown hK hP 4 (xw_is (r := 4) (by omega) (xc_fix (r := 4) (by omega))) rfl 4 (by decide) (hts _ mm_X0_readLine_12) (fun _ hh => hh) rfl dX0_readLine_160 ?_
            refine lv_aload_n hx hb dX0_readLine_163 rfl (lv_at hl 2 rfl) ?_
            refine va_get (D := (dC, dI)) (ci := 1) (v := .int (st136 4 5)) (C := RX0) (T := TX0) (N := 7) hx hb hts ii_X0_readLine_X0 hown hK hP 4 (xw_is (r := 4) (by omega) (xc_fix (r := 4) (by omega))) rfl 5 (by decide) (hts _ mm_X0_readLine_2) (fun _ hh => hh) rfl dX0_readLine_164 ?_
            refine zz_top (v := (nI gl)) (by show st136 4 5 = _; rw [est136, up2_ne (r := 8) (k := gl) (a := 4) (j := 5) _ _ (by omega), (hFst117 4 5 (by decide)).1, est115, up2_ne (r := 7) (k := gl) (a := 4) (j := 5) _ _ (by omega), (hFst101 4 5 (by decide)).1, hf12, h5]) ?_
            refine lv_aload_n hx hb dX0_readLine_167 rfl (lv_at hl 3 rfl) ?_
            refine va_getN (host := "OffTheLead") (D := (dC, dI)) (ci := 9) (v := .int (st136 1 12)) (C := RX8) (T := TX8) (N := 15) hx hb hts ii_X0_readLine_X8 hown hK hP 1 (xw_is (r := 1) (by omega) (xc_fix (r := 1) (by omega))) rfl 12 (by decide) (va_Nw.use rfl (nf_X0_116 hEv)) (fun _ hh => hh) rfl dX0_readLine_168 ?_
            obtain ⟨z137, ez137⟩ : ∃ y : Int32, st136 1 12 = y := ⟨_, rfl⟩
            refine zz_top (v := z137) (by exact ez137) ?_
            refine va_iast hx hb hK hP (xD hN _ _ _ _ _ _) hS 9 9 (xw_is (r := 9) (by omega) (xc_fix (r := 9) (by omega))) (xt_is (r := 9) (by omega) rfl) (i := (nI gl)) (vp_in_nI (by omega) (by decide)) dX0_readLine_171 (fun H locs hP _ hS => ?_)
            rw [nI_clamp (by omega)] at hP
            have hP : va_P (dC, dI) vwCl (xw A C nb (up2 st136 9 gl z137) sl118 so119) H := by rw [← xset (r := 9) (k := gl) (v := z137) (xc_fix (r := 9) (by omega))]; exact hP
            obtain ⟨st138, est138⟩ : ∃ y, y = up2 st136 9 gl z137 := ⟨_, rfl⟩
            have hG : XG [1, 2, 4, 5, 7, 8, 9, 12, 13, 14, 15] st st138 := by rw [est138]; exact hG.up (xz (r := 9) (k := gl) (by unfold xrg; rfl : xrg 9 gl = 0)) (xpn (c := 0) (by unfold xcl; rfl : xcl 9 gl = 0) (by decide))
            rw [← est138] at hP
            have hF : FX 6 st sl so st138 sl118 so119 := by rw [est138]; exact hF.up (dc_bk (o := 9) (by omega))
            have hR : CN c nm st138 sl118 0 := by rw [est138]; exact hR.up (by omega)
            refine lv_iload hx hb dX0_readLine_172 (lv_at hl 0 rfl) ?_
            exact W.zret (v := 0) hx hb hr rfl (fun t ht hW => ⟨⟨0, (st138, sl118, so119), rfl, ⟨hG, hO, hF, (show False by omega).elim⟩, xB.of ht hP⟩, hS.F ht⟩) hS.2.2 dX0_readLine_174
        · refine lv_if_ne (tgt := 118) hx hb dX0_readLine_113 (by decide) (fun cc => absurd (by decide) cc) (fun _ => ?_)
          refine lv_iconst (v := 0) hx hb dX0_readLine_116 (by decide) ?_
          exact W.zret (v := 0) hx hb hr rfl (fun t ht hW => ⟨⟨0, (st101, sl102, so103), rfl, ⟨hG, hO, hF, (show False by omega).elim⟩, xB.of ht hP⟩, hS.F ht⟩) hS.2.2 dX0_readLine_117
      · have c14 : (tkw B g m (tkx B g m p)) = 10 := (EV.eqw hEv (i := (tkw B g m (tkx B g m p))) (j := 10) (by omega) (by omega)).mp c14
        refine lv_aload_n hx hb dX0_readLine_38 rfl (lv_at hl 0 rfl) ?_
        refine va_gets (v := .ref (ad 25)) hx hb (EV.word hEv (i := 25) (by decide)) hS hown (hts _ mm_X0_readLine_3) (fun _ hh => hh) dX0_readLine_39 ?_
        refine lv_acmp_eq (rx := (some (ad (tkw B g m (tkx B g m p))))) (ry := (some (ad 25))) (tgt := 49) hx hb dX0_readLine_42 (by decide) (fun hh => absurd ((EV.eqw hEv (i := (tkw B g m (tkx B g m p))) (j := 25) (by omega) (by omega)).mp hh) (by omega)) (fun _ => ?_)
        refine lv_iconst (v := 1) hx hb dX0_readLine_45 (by decide) ?_
        refine lv_goto (tgt := 50) hx hb dX0_readLine_46 (by decide) ?_
        exact W.zret (v := 1) hx hb hr rfl (fun t ht hW => ⟨⟨1, (st2, sl3, so99), rfl, ⟨hG, hO, hF, Or.inl (⟨(tkx B g m (tkx B g m p)), rfl, hT, by show st2 1 13 = st 1 13; rw [hf11], by show st2 4 5 = st 4 5; rw [hf12], (bMd_d (show ¬ (tkw B g m p = 6 ∨ tkw B g m p = 7 ∨ tkw B g m p = 8 ∨ tkw B g m p = 5 ∨ tkw B g m p = 12) by omega) hf9).trans (bDg_y hf10)⟩)⟩, xB.of ht hP⟩, hS.F ht⟩) hS.2.2 dX0_readLine_50
  · have hp9 := hT.2.2.2.2.2.2
    have hk1 := tkd_lt (B := B) (g := g) (m := m) (p := (tkx B g m (tkx B g m p)))
    have hk2 := tkx_le (B := B) (g := g) (m := m) (p := (tkx B g m (tkx B g m p))) hp9
    have hk3 := tka_le (B := B) (g := g) (m := m) (p := (tkx B g m (tkx B g m p))) hp9 hB.2.2.1
    have hk4 := tkv_ltc (p := (tkx B g m (tkx B g m p))) hB hp9
    have hk5 := tkw_lt (B := B) (g := g) (m := m) (p := (tkx B g m (tkx B g m p)))
    refine lv_astore_n (lv' := [(3, .ref (ad (tkw B g m (tkx B g m p)))), (0, .ref (A 4)), (1, .ref (A 1)), (2, .ref (A (36 + 20 * 0)))]) hx hb dX0_readLine_6 rfl hl (by decide) rfl (fun ls hl => ?_)
    refine lv_aload_n hx hb dX0_readLine_7 rfl (lv_at hl 1 rfl) ?_
    refine va_get (D := (dC, dI)) (ci := 1) (v := .ref (A 5)) (C := RX0) (T := TX0) (N := 7) hx hb hts ii_X0_readLine_X0 hown hK hP 4 (xw_is (r := 4) (by omega) (xc_fix (r := 4) (by omega))) rfl 0 (by decide) (hts _ mm_X0_readLine_1) (fun _ hh => hh) rfl dX0_readLine_8 ?_
    refine lv_aload_n hx hb dX0_readLine_11 rfl (lv_at hl 1 rfl) ?_
    refine va_get (D := (dC, dI)) (ci := 1) (v := .int (st2 4 5)) (C := RX0) (T := TX0) (N := 7) hx hb hts ii_X0_readLine_X0 hown hK hP 4 (xw_is (r := 4) (by omega) (xc_fix (r := 4) (by omega))) rfl 5 (by decide) (hts _ mm_X0_readLine_2) (fun _ hh => hh) rfl dX0_readLine_12 ?_
    refine zz_top (v := (nI gl)) (by show st2 4 5 = _; rw [hf17, h5]) ?_
    refine lv_aload_n hx hb dX0_readLine_15 rfl (lv_at hl 0 rfl) ?_
    refine zz_astw (x := (some (ad (tkw B g m (tkx B g m p))))) hx hb hEv hK hP (xD hN _ _ _ _ _ _) hS 5 5 (xw_is (r := 5) (by omega) (xc_fix (r := 5) (by omega))) (xt_is (r := 5) (by omega) rfl) (isW.of (by omega)) (i := (nI gl)) (vp_in_nI (by omega) (by decide)) dX0_readLine_16 (fun H locs hP _ hS => ?_)
    rw [nI_clamp (by omega)] at hP
    have hP : va_P (dC, dI) vwCl (xw A C nb st2 sl3 (upO so4 5 gl (some (ad (tkw B g m (tkx B g m p)))))) H := by rw [← xsetO (r := 5) (k := gl) (v := (some (ad (tkw B g m (tkx B g m p))))) (xc_fix (r := 5) (by omega))]; exact hP
    obtain ⟨so139, eso139⟩ : ∃ y, y = upO so4 5 gl (some (ad (tkw B g m (tkx B g m p)))) := ⟨_, rfl⟩
    have hO : OG ad [3, 4] so so139 := by rw [eso139]; exact hO.up (isW.of (by omega)) (fun hh => absurd hh (by omega)) (by decide)
    rw [← eso139] at hP
    have hF : FX 6 st sl so st2 sl3 so139 := by rw [eso139]; exact hF.upO (dc_bk (o := 5) (by omega))
    have hT : TC B g m (tkx B g m (tkx B g m p)) ad st2 sl3 so139 := by rw [eso139]; exact hT.upO (by omega)
    refine lv_aload_n hx hb dX0_readLine_17 rfl (lv_at hl 0 rfl) ?_
    refine va_gets (v := .ref (ad 25)) hx hb (EV.word hEv (i := 25) (by decide)) hS hown (hts _ mm_X0_readLine_3) (fun _ hh => hh) dX0_readLine_18 ?_
    refine lv_acmp_eq (rx := (some (ad (tkw B g m (tkx B g m p))))) (ry := (some (ad 25))) (tgt := 38) hx hb dX0_readLine_21 (by decide) (fun hh => absurd ((EV.eqw hEv (i := (tkw B g m (tkx B g m p))) (j := 25) (by omega) (by omega)).mp hh) (by omega)) (fun _ => ?_)
    refine lv_aload_n hx hb dX0_readLine_24 rfl (lv_at hl 0 rfl) ?_
    refine va_gets (v := .ref (ad 9)) hx hb (EV.word hEv (i := 9) (by decide)) hS hown (hts _ mm_X0_readLine_4) (fun _ hh => hh) dX0_readLine_25 ?_
    refine lv_acmp_eq (rx := (some (ad (tkw B g m (tkx B g m p))))) (ry := (some (ad 9))) (tgt := 38) hx hb dX0_readLine_28 (by decide) (fun hh => absurd ((EV.eqw hEv (i := (tkw B g m (tkx B g m p))) (j := 9) (by omega) (by omega)).mp hh) (by omega)) (fun _ => ?_)
    refine lv_aload_n hx hb dX0_readLine_31 rfl (lv_at hl 0 rfl) ?_
    refine va_gets (v := .ref (ad 10)) hx hb (EV.word hEv (i := 10) (by decide)) hS hown (hts _ mm_X0_readLine_5) (fun _ hh => hh) dX0_readLine_32 ?_
    refine lv_acmp_ne (rx := (some (ad (tkw B g m (tkx B g m p))))) (ry := (some (ad 10))) (tgt := 51) hx hb dX0_readLine_35 (by decide) (fun _ => ?_) (fun hh => absurd ((EV.eqw hEv (i := (tkw B g m (tkx B g m p))) (j := 10) (by omega) (by omega)).mp hh) (by omega))
    refine lv_aload_n hx hb dX0_readLine_51 rfl (lv_at hl 0 rfl) ?_
    refine va_gets (v := .ref (ad 5)) hx hb (EV.word hEv (i := 5) (by decide)) hS hown (hts _ mm_X0_readLine_6) (fun _ hh => hh) dX0_readLine_52 ?_
    refine lv_acmp_eq (rx := (some (ad (tkw B g m (tkx B g m p))))) (ry := (some (ad 5))) (tgt := 65) hx hb dX0_readLine_55 (by decide) (fun hh => absurd ((EV.eqw hEv (i := (tkw B g m (tkx B g m p))) (j := 5) (by omega) (by omega)).mp hh) (by omega)) (fun _ => ?_)
    refine lv_aload_n hx hb dX0_readLine_58 rfl (lv_at hl 0 rfl) ?_
    refine va_gets (v := .ref (ad 12)) hx hb (EV.word hEv (i := 12) (by decide)) hS hown (hts _ mm_X0_readLine_7) (fun _ hh => hh) dX0_readLine_59 ?_
    refine lv_acmp_ne (rx := (some (ad (tkw B g m (tkx B g m p))))) (ry := (some (ad 12))) (tgt := 107) hx hb dX0_readLine_62 (by decide) (fun _ => ?_) (fun hh => absurd ((EV.eqw hEv (i := (tkw B g m (tkx B g m p))) (j := 12) (by omega) (by omega)).mp hh) (by omega))
    refine lv_aload_n hx hb dX0_readLine_107 rfl (lv_at hl 2 rfl) ?_
    refine lv_aload_n hx hb dX0_readLine_108 rfl (lv_at hl 3 rfl) ?_
    refine lv_iconst (v := 0) hx hb dX0_readLine_109 (by decide) ?_
    refine va_calli (va_runV (As := [.ref (A (36 + 20 * 0)), .int 0]) (rest := []) ⟨hx, hb, hml, hown, hts⟩ (y_takeNamem0 l dC dI ad E hEE A C nb _ hN st2 sl3 so139 B g m (tkx B g m (tkx B g m p)) c nm hG.1 hO.1 (CBt.fr hB hF) hT hR) (cwV 2 hts gX0_readLine_X8_takeNamed rfl rfl rfl (by decide +kernel) ⟨Nat.le_of_ble_eq_true rfl, Nat.le_of_ble_eq_true rfl⟩) ⟨fun a U g mk q => ⟨q.1, xPre.blind hEE q.2⟩, va_recv hK hP (ci := 9) (q0 := 1) rfl (xw_is (r := 1) (by omega) (xc_fix (r := 1) (by omega))), fun U hU hW => ⟨rfl, xPre.of hEE hP hK hE hS hU hW⟩⟩ rfl rfl hl.1 rfl (lv_room (Nat.le_of_ble_eq_true rfl)) dX0_readLine_110 ⟨Nat.le_of_ble_eq_true rfl, Nat.le_of_ble_eq_true rfl⟩) hS (fun q _ h => XA.le hS.1 q h) (XA.le hS.1) (fun r140 x t H locs ht hvm hw hB9 _ _ hS => ?_)
    have hP := xB.at ht hB9
    clear hB9 ht hvm
    obtain ⟨st141, sl142, so143⟩ := x
    obtain ⟨hGst141, hOst141, hFst141, hw⟩ := hw
    dsimp only at hGst141 hOst141 hFst141 hw
    have hO : OG ad [3, 4] so so143 := hO.tr hOst141 (by decide)
    have hP : va_P (dC, dI) vwCl (xw A C nb st141 sl142 so143) _ := hP
    have hG : XG [1, 2, 4, 5, 7, 8, 9, 12, 13, 14, 15] st st141 := hG.tr hGst141 (by decide)
    have hF : FX 6 st sl so st141 sl142 so143 := hF.tr hFst141 (by omega) (by omega)
    have hR : CN c nm st141 sl142 0 := hR.fr0 hFst141
    rcases hw with ⟨n144, rfl, hf145, hf146, hT, hf147, hf148⟩ | ⟨n149, n150, rfl, hf151, hf152, hf153, hf154⟩
    · have hp9 := hT.2.2.2.2.2.2
      have hk1 := tkd_lt (B := B) (g := g) (m := m) (p := (tkx B g m (tkx B g m (tkx B g m p))))
      have hk2 := tkx_le (B := B) (g := g) (m := m) (p := (tkx B g m (tkx B g m (tkx B g m p)))) hp9
      have hk3 := tka_le (B := B) (g := g) (m := m) (p := (tkx B g m (tkx B g m (tkx B g m p)))) hp9 hB.2.2.1
      have hk4 := tkv_ltc (p := (tkx B g m (tkx B g m (tkx B g m p)))) hB hp9
      have hk5 := tkw_lt (B := B) (g := g) (m := m) (p := (tkx B g m (tkx B g m (tkx B g m p))))
      refine lv_if_ne (tgt := 118) hx hb dX0_readLine_113 (by decide) (fun _ => ?_) (fun cc => absurd cc (by decide))
      refine lv_aload_n hx hb dX0_readLine_118 rfl (lv_at hl 1 rfl) ?_
      refine va_get (D := (dC, dI)) (ci := 1) (v := .ref (A 7)) (C := RX0) (T := TX0) (N := 7) hx hb hts ii_X0_readLine_X0 hown hK hP 4 (xw_is (r := 4) (by omega) (xc_fix (r := 4) (by omega))) rfl 2 (by decide) (hts _ mm_X0_readLine_9) (fun _ hh => hh) rfl dX0_readLine_119 ?_
      refine lv_aload_n hx hb dX0_readLine_122 rfl (lv_at hl 1 rfl) ?_
      refine va_get (D := (dC, dI)) (ci := 1) (v := .int (st141 4 5)) (C := RX0) (T := TX0) (N := 7) hx hb hts ii_X0_readLine_X0 hown hK hP 4 (xw_is (r := 4) (by omega) (xc_fix (r := 4) (by omega))) rfl 5 (by decide) (hts _ mm_X0_readLine_2) (fun _ hh => hh) rfl dX0_readLine_123 ?_
      refine zz_top (v := (nI gl)) (by show st141 4 5 = _; rw [(hFst141 4 5 (by decide)).1, hf17, h5]) ?_
      refine lv_aload_n hx hb dX0_readLine_126 rfl (lv_at hl 2 rfl) ?_
      refine va_getN (host := "OffTheLead") (D := (dC, dI)) (ci := 9) (v := .int (st141 1 9)) (C := RX8) (T := TX8) (N := 15) hx hb hts ii_X0_readLine_X8 hown hK hP 1 (xw_is (r := 1) (by omega) (xc_fix (r := 1) (by omega))) rfl 9 (by decide) (va_Nw.use rfl (nf_X0_102 hEv)) (fun _ hh => hh) rfl dX0_readLine_127 ?_
      refine zz_top (v := (nI n144)) (by show st141 1 9 = _; rw [hf146]) ?_
      refine va_iast hx hb hK hP (xD hN _ _ _ _ _ _) hS 7 7 (xw_is (r := 7) (by omega) (xc_fix (r := 7) (by omega))) (xt_is (r := 7) (by omega) rfl) (i := (nI gl)) (vp_in_nI (by omega) (by decide)) dX0_readLine_130 (fun H locs hP _ hS => ?_)
      rw [nI_clamp (by omega)] at hP
      have hP : va_P (dC, dI) vwCl (xw A C nb (up2 st141 7 gl (nI n144)) sl142 so143) H := by rw [← xset (r := 7) (k := gl) (v := (nI n144)) (xc_fix (r := 7) (by omega))]; exact hP
      obtain ⟨st155, est155⟩ : ∃ y, y = up2 st141 7 gl (nI n144) := ⟨_, rfl⟩
      have hG : XG [1, 2, 4, 5, 7, 8, 9, 12, 13, 14, 15] st st155 := by rw [est155]; exact hG.up (xn (n := n144) (b := 5) (by unfold xrg; rfl : xrg 7 gl = 5) (by omega)) (xpn (c := 0) (by unfold xcl; rfl : xcl 7 gl = 0) (by decide))
      rw [← est155] at hP
      have hF : FX 6 st sl so st155 sl142 so143 := by rw [est155]; exact hF.up (dc_bk (o := 7) (by omega))
      have hT : TC B g m (tkx B g m (tkx B g m (tkx B g m p))) ad st155 sl142 so143 := by rw [est155]; exact hT.up (by omega)
      have hR : CN c nm st155 sl142 0 := by rw [est155]; exact hR.up (by omega)
      refine lv_aload_n hx hb dX0_readLine_131 rfl (lv_at hl 0 rfl) ?_
      refine va_gets (v := .ref (ad 8)) hx hb (EV.word hEv (i := 8) (by decide)) hS hown (hts _ mm_X0_readLine_10) (fun _ hh => hh) dX0_readLine_132 ?_
      refine lv_acmp_ne (rx := (some (ad (tkw B g m (tkx B g m p))))) (ry := (some (ad 8))) (tgt := 140) hx hb dX0_readLine_135 (by decide) (fun _ => ?_) (fun hh => absurd ((EV.eqw hEv (i := (tkw B g m (tkx B g m p))) (j := 8) (by omega) (by omega)).mp hh) (by omega))
      refine lv_aload_n hx hb dX0_readLine_140 rfl (lv_at hl 2 rfl) ?_
      refine va_calli (va_runV (As := []) (rest := []) ⟨hx, hb, hml, hown, hts⟩ (y_X8_takeHours l dC dI ad E hEE A C nb _ hN st155 sl142 so143 B g m (tkx B g m (tkx B g m (tkx B g m p))) hG.1 hO.1 (CBt.fr hB hF) hT) (cwV 0 hts gX0_readLine_X8_takeHours rfl rfl rfl (by decide +kernel) ⟨Nat.le_of_ble_eq_true rfl, Nat.le_of_ble_eq_true rfl⟩) ⟨fun a U g mk q => ⟨q.1, xPre.blind hEE q.2⟩, va_recv hK hP (ci := 9) (q0 := 1) rfl (xw_is (r := 1) (by omega) (xc_fix (r := 1) (by omega))), fun U hU hW => ⟨rfl, xPre.of hEE hP hK hE hS hU hW⟩⟩ rfl rfl hl.1 rfl (lv_room (Nat.le_of_ble_eq_true rfl)) dX0_readLine_141 ⟨Nat.le_of_ble_eq_true rfl, Nat.le_of_ble_eq_true rfl⟩) hS (fun q _ h => XA.le hS.1 q h) (XA.le hS.1) (fun r156 x t H locs ht hvm hw hB9 _ _ hS => ?_)
      have hP := xB.at ht hB9
      clear hB9 ht hvm
      obtain ⟨st157, sl158, so159⟩ := x
      obtain ⟨hGst157, hOst157, hFst157, hw⟩ := hw
      dsimp only at hGst157 hOst157 hFst157 hw
      have hO : OG ad [3, 4] so so159 := hO.tr hOst157 (by decide)
      have hP : va_P (dC, dI) vwCl (xw A C nb st157 sl158 so159) _ := hP
      have hG : XG [1, 2, 4, 5, 7, 8, 9, 12, 13, 14, 15] st st157 := hG.tr hGst157 (by decide)
      have hF : FX 6 st sl so st157 sl158 so159 := hF.tr hFst157 (by omega) (by omega)
      have hR : CN c nm st157 sl158 0 := hR.fr0 hFst157
      rcases hw with ⟨rfl, hf160, hf161, hf162, hf163, hT, hf164, hf165, hf166⟩ | ⟨n167, n168, rfl, hf169, hf170, hf171, hf172⟩
      · have hp9 := hT.2.2.2.2.2.2
        have hk1 := tkd_lt (B := B) (g := g) (m := m) (p := (tkx B g m (tkx B g m (tkx B g m (tkx B g m (tkx B g m p))))))
        have hk2 := tkx_le (B := B) (g := g) (m := m) (p := (tkx B g m (tkx B g m (tkx B g m (tkx B g m (tkx B g m p)))))) hp9
        have hk3 := tka_le (B := B) (g := g) (m := m) (p := (tkx B g m (tkx B g m (tkx B g m (tkx B g m (tkx B g m p)))))) hp9 hB.2.2.1
        have hk4 := tkv_ltc (p := (tkx B g m (tkx B g m (tkx B g m (tkx B g m (tkx B g m p)))))) hB hp9
        have hk5 := tkw_lt (B := B) (g := g) (m := m) (p := (tkx B g m (tkx B g m (tkx B g m (tkx B g m (tkx B g m p))))))
        refine lv_istore (lv' := [(4, .int 1), (3, .ref (ad (tkw B g m (tkx B g m p)))), (0, .ref (A 4)), (1, .ref (A 1)), (2, .ref (A (36 + 20 * 0)))]) hx hb dX0_readLine_144 hl (by decide) rfl (fun ls hl => ?_)
        refine lv_aload_n hx hb dX0_readLine_146 rfl (lv_at hl 2 rfl) ?_
        refine va_get (D := (dC, dI)) (ci := 1) (v := .ref (A 8)) (C := RX0) (T := TX0) (N := 7) hx hb hts ii_X0_readLine_X0 hown hK hP 4 (xw_is (r := 4) (by omega) (xc_fix (r := 4) (by omega))) rfl 3 (by decide) (hts _ mm_X0_readLine_11) (fun _ hh => hh) rfl dX0_readLine_147 ?_
        refine lv_aload_n hx hb dX0_readLine_150 rfl (lv_at hl 2 rfl) ?_
        refine va_get (D := (dC, dI)) (ci := 1) (v := .int (st157 4 5)) (C := RX0) (T := TX0) (N := 7) hx hb hts ii_X0_readLine_X0 hown hK hP 4 (xw_is (r := 4) (by omega) (xc_fix (r := 4) (by omega))) rfl 5 (by decide) (hts _ mm_X0_readLine_2) (fun _ hh => hh) rfl dX0_readLine_151 ?_
        refine zz_top (v := (nI gl)) (by show st157 4 5 = _; rw [(hFst157 4 5 (by decide)).1, est155, up2_ne (r := 7) (k := gl) (a := 4) (j := 5) _ _ (by omega), (hFst141 4 5 (by decide)).1, hf17, h5]) ?_
        refine lv_aload_n hx hb dX0_readLine_154 rfl (lv_at hl 3 rfl) ?_
        refine va_getN (host := "OffTheLead") (D := (dC, dI)) (ci := 9) (v := .int (st157 1 11)) (C := RX8) (T := TX8) (N := 15) hx hb hts ii_X0_readLine_X8 hown hK hP 1 (xw_is (r := 1) (by omega) (xc_fix (r := 1) (by omega))) rfl 11 (by decide) (va_Nw.use rfl (nf_X0_113 hEv)) (fun _ hh => hh) rfl dX0_readLine_155 ?_
        refine zz_top (v := (nI (tkv B g (tkx B g m (tkx B g m (tkx B g m p)))))) (by show st157 1 11 = _; rw [hf160]) ?_
        refine va_iast hx hb hK hP (xD hN _ _ _ _ _ _) hS 8 8 (xw_is (r := 8) (by omega) (xc_fix (r := 8) (by omega))) (xt_is (r := 8) (by omega) rfl) (i := (nI gl)) (vp_in_nI (by omega) (by decide)) dX0_readLine_158 (fun H locs hP _ hS => ?_)
        rw [nI_clamp (by omega)] at hP
        have hP : va_P (dC, dI) vwCl (xw A C nb (up2 st157 8 gl (nI (tkv B g (tkx B g m (tkx B g m (tkx B g m p)))))) sl158 so159) H := by rw [← xset (r := 8) (k := gl) (v := (nI (tkv B g (tkx B g m (tkx B g m (tkx B g m p)))))) (xc_fix (r := 8) (by omega))]; exact hP
        obtain ⟨st173, est173⟩ : ∃ y, y = up2 st157 8 gl (nI (tkv B g (tkx B g m (tkx B g m (tkx B g m p))))) := ⟨_, rfl⟩
        have hG : XG [1, 2, 4, 5, 7, 8, 9, 12, 13, 14, 15] st st173 := by rw [est173]; exact hG.up (xz (r := 8) (k := gl) (by unfold xrg; rfl : xrg 8 gl = 0)) (xpn (c := 0) (by unfold xcl; rfl : xcl 8 gl = 0) (by decide))
        rw [← est173] at hP
        have hF : FX 6 st sl so st173 sl158 so159 := by rw [est173]; exact hF.up (dc_bk (o := 8) (by omega))
        have hT : TC B g m (tkx B g m (tkx B g m (tkx B g m (tkx B g m (tkx B g m p))))) ad st173 sl158 so159 := by rw [est173]; exact hT.up (by omega)
        have hR : CN c nm st173 sl158 0 := by rw [est173]; exact hR.up (by omega)
        refine lv_aload_n hx hb dX0_readLine_159 rfl (lv_at hl 2 rfl) ?_
        refine va_get (D := (dC, dI)) (ci := 1) (v := .ref (A 9)) (C := RX0) (T := TX0) (N := 7) hx hb hts ii_X0_readLine_X0 hown hK hP 4 (xw_is (r := 4) (by omega) (xc_fix (r := 4) (by omega))) rfl 4 (by decide) (hts _ mm_X0_readLine_12) (fun _ hh => hh) rfl dX0_readLine_160 ?_
        refine lv_aload_n hx hb dX0_readLine_163 rfl (lv_at hl 2 rfl) ?_
        refine va_get (D := (dC, dI)) (ci := 1) (v := .int (st173 4 5)) (C := RX0) (T := TX0) (N := 7) hx hb hts ii_X0_readLine_X0 hown hK hP 4 (xw_is (r := 4) (by omega) (xc_fix (r := 4) (by omega))) rfl 5 (by decide) (hts _ mm_X0_readLine_2) (fun _ hh => hh) rfl dX0_readLine_164 ?_
        refine zz_top (v := (nI gl)) (by show st173 4 5 = _; rw [est173, up2_ne (r := 8) (k := gl) (a := 4) (j := 5) _ _ (by omega), (hFst157 4 5 (by decide)).1, est155, up2_ne (r := 7) (k := gl) (a := 4) (j := 5) _ _ (by omega), (hFst141 4 5 (by decide)).1, hf17, h5]) ?_
        refine lv_aload_n hx hb dX0_readLine_167 rfl (lv_at hl 3 rfl) ?_
        refine va_getN (host := "OffTheLead") (D := (dC, dI)) (ci := 9) (v := .int (st173 1 12)) (C := RX8) (T := TX8) (N := 15) hx hb hts ii_X0_readLine_X8 hown hK hP 1 (xw_is (r := 1) (by omega) (xc_fix (r := 1) (by omega))) rfl 12 (by decide) (va_Nw.use rfl (nf_X0_116 hEv)) (fun _ hh => hh) rfl dX0_readLine_168 ?_
        refine zz_top (v := (nI (tkv B g (tkx B g m (tkx B g m (tkx B g m (tkx B g m p))))))) (by show st173 1 12 = _; rw [est173, up2_ne (r := 8) (k := gl) (a := 1) (j := 12) _ _ (by omega), hf161]) ?_
        refine va_iast hx hb hK hP (xD hN _ _ _ _ _ _) hS 9 9 (xw_is (r := 9) (by omega) (xc_fix (r := 9) (by omega))) (xt_is (r := 9) (by omega) rfl) (i := (nI gl)) (vp_in_nI (by omega) (by decide)) dX0_readLine_171 (fun H locs hP _ hS => ?_)
        rw [nI_clamp (by omega)] at hP
        have hP : va_P (dC, dI) vwCl (xw A C nb (up2 st173 9 gl (nI (tkv B g (tkx B g m (tkx B g m (tkx B g m (tkx B g m p))))))) sl158 so159) H := by rw [← xset (r := 9) (k := gl) (v := (nI (tkv B g (tkx B g m (tkx B g m (tkx B g m (tkx B g m p))))))) (xc_fix (r := 9) (by omega))]; exact hP
        obtain ⟨st174, est174⟩ : ∃ y, y = up2 st173 9 gl (nI (tkv B g (tkx B g m (tkx B g m (tkx B g m (tkx B g m p)))))) := ⟨_, rfl⟩
        have hG : XG [1, 2, 4, 5, 7, 8, 9, 12, 13, 14, 15] st st174 := by rw [est174]; exact hG.up (xz (r := 9) (k := gl) (by unfold xrg; rfl : xrg 9 gl = 0)) (xpn (c := 0) (by unfold xcl; rfl : xcl 9 gl = 0) (by decide))
        rw [← est174] at hP
        have hF : FX 6 st sl so st174 sl158 so159 := by rw [est174]; exact hF.up (dc_bk (o := 9) (by omega))
        have hT : TC B g m (tkx B g m (tkx B g m (tkx B g m (tkx B g m (tkx B g m p))))) ad st174 sl158 so159 := by rw [est174]; exact hT.up (by omega)
        have hR : CN c nm st174 sl158 0 := by rw [est174]; exact hR.up (by omega)
        refine lv_iload hx hb dX0_readLine_172 (lv_at hl 0 rfl) ?_
        exact W.zret (v := 1) hx hb hr rfl (fun t ht hW => ⟨⟨1, (st174, sl158, so159), rfl, ⟨hG, hO, hF, Or.inl (⟨(tkx B g m (tkx B g m (tkx B g m (tkx B g m (tkx B g m p))))), rfl, hT, by show st174 1 13 = st 1 13; rw [est174, up2_ne (r := 9) (k := gl) (a := 1) (j := 13) _ _ (by omega), est173, up2_ne (r := 8) (k := gl) (a := 1) (j := 13) _ _ (by omega), hf164, est155, up2_ne (r := 7) (k := gl) (a := 1) (j := 13) _ _ (by omega), hf147, hf16], by show st174 4 5 = st 4 5; rw [est174, up2_ne (r := 9) (k := gl) (a := 4) (j := 5) _ _ (by omega), est173, up2_ne (r := 8) (k := gl) (a := 4) (j := 5) _ _ (by omega), (hFst157 4 5 (by decide)).1, est155, up2_ne (r := 7) (k := gl) (a := 4) (j := 5) _ _ (by omega), (hFst141 4 5 (by decide)).1, hf17], (bMd_p (show ¬ (tkw B g m p = 6 ∨ tkw B g m p = 7 ∨ tkw B g m p = 8 ∨ tkw B g m p = 5 ∨ tkw B g m p = 12) by omega) hf14).trans ((bPe_y hf15).trans ((bPl_y (sNam_y hf148)).trans (sOf_y (hf166 kP))))⟩)⟩, xB.of ht hP⟩, hS.F ht⟩) hS.2.2 dX0_readLine_174
      · refine lv_istore (lv' := [(4, .int 0), (3, .ref (ad (tkw B g m (tkx B g m p)))), (0, .ref (A 4)), (1, .ref (A 1)), (2, .ref (A (36 + 20 * 0)))]) hx hb dX0_readLine_144 hl (by decide) rfl (fun ls hl => ?_)
        refine lv_aload_n hx hb dX0_readLine_146 rfl (lv_at hl 2 rfl) ?_
        refine va_get (D := (dC, dI)) (ci := 1) (v := .ref (A 8)) (C := RX0) (T := TX0) (N := 7) hx hb hts ii_X0_readLine_X0 hown hK hP 4 (xw_is (r := 4) (by omega) (xc_fix (r := 4) (by omega))) rfl 3 (by decide) (hts _ mm_X0_readLine_11) (fun _ hh => hh) rfl dX0_readLine_147 ?_
        refine lv_aload_n hx hb dX0_readLine_150 rfl (lv_at hl 2 rfl) ?_
        refine va_get (D := (dC, dI)) (ci := 1) (v := .int (st157 4 5)) (C := RX0) (T := TX0) (N := 7) hx hb hts ii_X0_readLine_X0 hown hK hP 4 (xw_is (r := 4) (by omega) (xc_fix (r := 4) (by omega))) rfl 5 (by decide) (hts _ mm_X0_readLine_2) (fun _ hh => hh) rfl dX0_readLine_151 ?_
        refine zz_top (v := (nI gl)) (by show st157 4 5 = _; rw [(hFst157 4 5 (by decide)).1, est155, up2_ne (r := 7) (k := gl) (a := 4) (j := 5) _ _ (by omega), (hFst141 4 5 (by decide)).1, hf17, h5]) ?_
        refine lv_aload_n hx hb dX0_readLine_154 rfl (lv_at hl 3 rfl) ?_
        refine va_getN (host := "OffTheLead") (D := (dC, dI)) (ci := 9) (v := .int (st157 1 11)) (C := RX8) (T := TX8) (N := 15) hx hb hts ii_X0_readLine_X8 hown hK hP 1 (xw_is (r := 1) (by omega) (xc_fix (r := 1) (by omega))) rfl 11 (by decide) (va_Nw.use rfl (nf_X0_113 hEv)) (fun _ hh => hh) rfl dX0_readLine_155 ?_
        obtain ⟨z175, ez175⟩ : ∃ y : Int32, st157 1 11 = y := ⟨_, rfl⟩
        refine zz_top (v := z175) (by exact ez175) ?_
        refine va_iast hx hb hK hP (xD hN _ _ _ _ _ _) hS 8 8 (xw_is (r := 8) (by omega) (xc_fix (r := 8) (by omega))) (xt_is (r := 8) (by omega) rfl) (i := (nI gl)) (vp_in_nI (by omega) (by decide)) dX0_readLine_158 (fun H locs hP _ hS => ?_)
        rw [nI_clamp (by omega)] at hP
        have hP : va_P (dC, dI) vwCl (xw A C nb (up2 st157 8 gl z175) sl158 so159) H := by rw [← xset (r := 8) (k := gl) (v := z175) (xc_fix (r := 8) (by omega))]; exact hP
        obtain ⟨st176, est176⟩ : ∃ y, y = up2 st157 8 gl z175 := ⟨_, rfl⟩
        have hG : XG [1, 2, 4, 5, 7, 8, 9, 12, 13, 14, 15] st st176 := by rw [est176]; exact hG.up (xz (r := 8) (k := gl) (by unfold xrg; rfl : xrg 8 gl = 0)) (xpn (c := 0) (by unfold xcl; rfl : xcl 8 gl = 0) (by decide))
        rw [← est176] at hP
        have hF : FX 6 st sl so st176 sl158 so159 := by rw [est176]; exact hF.up (dc_bk (o := 8) (by omega))
        have hR : CN c nm st176 sl158 0 := by rw [est176]; exact hR.up (by omega)
        refine lv_aload_n hx hb dX0_readLine_159 rfl (lv_at hl 2 rfl) ?_
        refine va_get (D := (dC, dI)) (ci := 1) (v := .ref (A 9)) (C := RX0) (T := TX0) (N := 7) hx hb hts ii_X0_readLine_X0 hown hK hP 4 (xw_is (r := 4) (by omega) (xc_fix (r := 4) (by omega))) rfl 4 (by decide) (hts _ mm_X0_readLine_12) (fun _ hh => hh) rfl dX0_readLine_160 ?_
        refine lv_aload_n hx hb dX0_readLine_163 rfl (lv_at hl 2 rfl) ?_
        refine va_get (D := (dC, dI)) (ci := 1) (v := .int (st176 4 5)) (C := RX0) (T := TX0) (N := 7) hx hb hts ii_X0_readLine_X0 hown hK hP 4 (xw_is (r := 4) (by omega) (xc_fix (r := 4) (by omega))) rfl 5 (by decide) (hts _ mm_X0_readLine_2) (fun _ hh => hh) rfl dX0_readLine_164 ?_
        refine zz_top (v := (nI gl)) (by show st176 4 5 = _; rw [est176, up2_ne (r := 8) (k := gl) (a := 4) (j := 5) _ _ (by omega), (hFst157 4 5 (by decide)).1, est155, up2_ne (r := 7) (k := gl) (a := 4) (j := 5) _ _ (by omega), (hFst141 4 5 (by decide)).1, hf17, h5]) ?_
        refine lv_aload_n hx hb dX0_readLine_167 rfl (lv_at hl 3 rfl) ?_
        refine va_getN (host := "OffTheLead") (D := (dC, dI)) (ci := 9) (v := .int (st176 1 12)) (C := RX8) (T := TX8) (N := 15) hx hb hts ii_X0_readLine_X8 hown hK hP 1 (xw_is (r := 1) (by omega) (xc_fix (r := 1) (by omega))) rfl 12 (by decide) (va_Nw.use rfl (nf_X0_116 hEv)) (fun _ hh => hh) rfl dX0_readLine_168 ?_
        obtain ⟨z177, ez177⟩ : ∃ y : Int32, st176 1 12 = y := ⟨_, rfl⟩
        refine zz_top (v := z177) (by exact ez177) ?_
        refine va_iast hx hb hK hP (xD hN _ _ _ _ _ _) hS 9 9 (xw_is (r := 9) (by omega) (xc_fix (r := 9) (by omega))) (xt_is (r := 9) (by omega) rfl) (i := (nI gl)) (vp_in_nI (by omega) (by decide)) dX0_readLine_171 (fun H locs hP _ hS => ?_)
        rw [nI_clamp (by omega)] at hP
        have hP : va_P (dC, dI) vwCl (xw A C nb (up2 st176 9 gl z177) sl158 so159) H := by rw [← xset (r := 9) (k := gl) (v := z177) (xc_fix (r := 9) (by omega))]; exact hP
        obtain ⟨st178, est178⟩ : ∃ y, y = up2 st176 9 gl z177 := ⟨_, rfl⟩
        have hG : XG [1, 2, 4, 5, 7, 8, 9, 12, 13, 14, 15] st st178 := by rw [est178]; exact hG.up (xz (r := 9) (k := gl) (by unfold xrg; rfl : xrg 9 gl = 0)) (xpn (c := 0) (by unfold xcl; rfl : xcl 9 gl = 0) (by decide))
        rw [← est178] at hP
        have hF : FX 6 st sl so st178 sl158 so159 := by rw [est178]; exact hF.up (dc_bk (o := 9) (by omega))
        have hR : CN c nm st178 sl158 0 := by rw [est178]; exact hR.up (by omega)
        refine lv_iload hx hb dX0_readLine_172 (lv_at hl 0 rfl) ?_
        exact W.zret (v := 0) hx hb hr rfl (fun t ht hW => ⟨⟨0, (st178, sl158, so159), rfl, ⟨hG, hO, hF, Or.inr (⟨n167, n168, rfl, by show st178 1 13 = _; rw [est178, up2_ne (r := 9) (k := gl) (a := 1) (j := 13) _ _ (by omega), est176, up2_ne (r := 8) (k := gl) (a := 1) (j := 13) _ _ (by omega), hf169], by show st178 1 14 = _; rw [est178, up2_ne (r := 9) (k := gl) (a := 1) (j := 14) _ _ (by omega), est176, up2_ne (r := 8) (k := gl) (a := 1) (j := 14) _ _ (by omega), hf170], hf171, (bMd_p (show ¬ (tkw B g m p = 6 ∨ tkw B g m p = 7 ∨ tkw B g m p = 8 ∨ tkw B g m p = 5 ∨ tkw B g m p = 12) by omega) hf14).trans ((bPe_y hf15).trans ((bPl_y (sNam_y hf148)).trans (sOf_f (hf172 kP) (by omega))))⟩)⟩, xB.of ht hP⟩, hS.F ht⟩) hS.2.2 dX0_readLine_174
    · refine lv_if_ne (tgt := 118) hx hb dX0_readLine_113 (by decide) (fun cc => absurd (by decide) cc) (fun _ => ?_)
      refine lv_iconst (v := 0) hx hb dX0_readLine_116 (by decide) ?_
      exact W.zret (v := 0) hx hb hr rfl (fun t ht hW => ⟨⟨0, (st141, sl142, so143), rfl, ⟨hG, hO, hF, Or.inr (⟨n149, n150, rfl, by show st141 1 13 = _; rw [hf151], by show st141 1 14 = _; rw [hf152], hf153, (bMd_p (show ¬ (tkw B g m p = 6 ∨ tkw B g m p = 7 ∨ tkw B g m p = 8 ∨ tkw B g m p = 5 ∨ tkw B g m p = 12) by omega) hf14).trans ((bPe_y hf15).trans (bPl_f (sNam_f hf154 (by omega)) (by omega)))⟩)⟩, xB.of ht hP⟩, hS.F ht⟩) hS.2.2 dX0_readLine_117
  · refine lv_astore_n (lv' := [(3, .ref (ad 25)), (0, .ref (A 4)), (1, .ref (A 1)), (2, .ref (A (36 + 20 * 0)))]) hx hb dX0_readLine_6 rfl hl (by decide) rfl (fun ls hl => ?_)
    refine lv_aload_n hx hb dX0_readLine_7 rfl (lv_at hl 1 rfl) ?_
    refine va_get (D := (dC, dI)) (ci := 1) (v := .ref (A 5)) (C := RX0) (T := TX0) (N := 7) hx hb hts ii_X0_readLine_X0 hown hK hP 4 (xw_is (r := 4) (by omega) (xc_fix (r := 4) (by omega))) rfl 0 (by decide) (hts _ mm_X0_readLine_1) (fun _ hh => hh) rfl dX0_readLine_8 ?_
    refine lv_aload_n hx hb dX0_readLine_11 rfl (lv_at hl 1 rfl) ?_
    refine va_get (D := (dC, dI)) (ci := 1) (v := .int (st2 4 5)) (C := RX0) (T := TX0) (N := 7) hx hb hts ii_X0_readLine_X0 hown hK hP 4 (xw_is (r := 4) (by omega) (xc_fix (r := 4) (by omega))) rfl 5 (by decide) (hts _ mm_X0_readLine_2) (fun _ hh => hh) rfl dX0_readLine_12 ?_
    refine zz_top (v := (nI gl)) (by show st2 4 5 = _; rw [hf21, h5]) ?_
    refine lv_aload_n hx hb dX0_readLine_15 rfl (lv_at hl 0 rfl) ?_
    refine zz_astw (x := (some (ad 25))) hx hb hEv hK hP (xD hN _ _ _ _ _ _) hS 5 5 (xw_is (r := 5) (by omega) (xc_fix (r := 5) (by omega))) (xt_is (r := 5) (by omega) rfl) (isW.of (by omega)) (i := (nI gl)) (vp_in_nI (by omega) (by decide)) dX0_readLine_16 (fun H locs hP _ hS => ?_)
    rw [nI_clamp (by omega)] at hP
    have hP : va_P (dC, dI) vwCl (xw A C nb st2 sl3 (upO so4 5 gl (some (ad 25)))) H := by rw [← xsetO (r := 5) (k := gl) (v := (some (ad 25))) (xc_fix (r := 5) (by omega))]; exact hP
    obtain ⟨so179, eso179⟩ : ∃ y, y = upO so4 5 gl (some (ad 25)) := ⟨_, rfl⟩
    have hO : OG ad [3, 4] so so179 := by rw [eso179]; exact hO.up (isW.of (by omega)) (fun hh => absurd hh (by omega)) (by decide)
    rw [← eso179] at hP
    have hF : FX 6 st sl so st2 sl3 so179 := by rw [eso179]; exact hF.upO (dc_bk (o := 5) (by omega))
    refine lv_aload_n hx hb dX0_readLine_17 rfl (lv_at hl 0 rfl) ?_
    refine va_gets (v := .ref (ad 25)) hx hb (EV.word hEv (i := 25) (by decide)) hS hown (hts _ mm_X0_readLine_3) (fun _ hh => hh) dX0_readLine_18 ?_
    refine lv_acmp_eq (rx := (some (ad 25))) (ry := (some (ad 25))) (tgt := 38) hx hb dX0_readLine_21 (by decide) (fun _ => ?_) (fun hh => absurd rfl hh)
    refine lv_aload_n hx hb dX0_readLine_38 rfl (lv_at hl 0 rfl) ?_
    refine va_gets (v := .ref (ad 25)) hx hb (EV.word hEv (i := 25) (by decide)) hS hown (hts _ mm_X0_readLine_3) (fun _ hh => hh) dX0_readLine_39 ?_
    refine lv_acmp_eq (rx := (some (ad 25))) (ry := (some (ad 25))) (tgt := 49) hx hb dX0_readLine_42 (by decide) (fun _ => ?_) (fun hh => absurd rfl hh)
    refine lv_iconst (v := 0) hx hb dX0_readLine_49 (by decide) ?_
    have hbd : bMd B g m c nm p = sf 1 (tka B g m (tkx B g m p)) := by
      rcases hf22 with ⟨z1, z2⟩ | ⟨z1, z2⟩
      · exact (bMd_d (show ¬ (tkw B g m p = 6 ∨ tkw B g m p = 7 ∨ tkw B g m p = 8 ∨ tkw B g m p = 5 ∨ tkw B g m p = 12) by omega) z1).trans (bDg_n z2)
      · exact (bMd_p (show ¬ (tkw B g m p = 6 ∨ tkw B g m p = 7 ∨ tkw B g m p = 8 ∨ tkw B g m p = 5 ∨ tkw B g m p = 12) by omega) z1).trans (bPe_n z2)
    exact W.zret (v := 0) hx hb hr rfl (fun t ht hW => ⟨⟨0, (st2, sl3, so179), rfl, ⟨hG, hO, hF, Or.inr (⟨1, (tka B g m (tkx B g m p)), rfl, by show st2 1 13 = _; rw [hf18], by show st2 1 14 = _; rw [hf19], by omega, hbd⟩)⟩, xB.of ht hP⟩, hS.F ht⟩) hS.2.2 dX0_readLine_50
