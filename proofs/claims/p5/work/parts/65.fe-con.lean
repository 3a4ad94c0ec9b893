set_option maxHeartbeats 4000000 in
set_option maxRecDepth 100000 in
theorem y_X5_readPlace (l : Launch) (dC : Nat → ClassId) (dI : Nat → Nat → Nat) (ad : Nat → Nat) (E : EP) (hEE : EC ad E) (A : Nat → Nat) (C : Nat → ClassId) (nb sz : Nat) (hN : XN A) (st : Nat → Nat → Int32) (sl : Nat → Nat → Int64) (so : Nat → XR) (B : Nat → Nat) (g m : Nat) (p : Nat) (c : Nat → Nat) (nm : Nat → Nat → Nat) (hI : XI st) (hOI : OI ad so) (hB : CBt B g m st) (hT : TC B g m p ad st sl so) (hR : PT c nm st sl) (hw : tkw B g m p = 0) : Met l yX5_readPlace wsX5_readPlace ({ frames := 7, cells := 0, slots := 0, locals := 151 }) (va_Pc [.ref (A 3), .ref (A 1), .ref (A (36 + 20 * 1))] (xPre E dC dI A C nb sz st sl so)) (va_Qi (fun (r : Int32) (x : XT) => XG [1, 2, 3, 4, 5, 6, 8, 9, 12, 13, 14, 15] st x.1 ∧ OG ad [2, 3, 4] so x.2.2 ∧ FX 4 st sl so x.1 x.2.1 x.2.2 ∧ ((∃ c1 : Nat → Nat, ∃ n1 : Nat → Nat → Nat, ∃ q : Nat, r = 1 ∧ PT c1 n1 x.1 x.2.1 ∧ TC B g m q ad x.1 x.2.1 x.2.2 ∧ x.1 1 13 = st 1 13 ∧ c1 0 + c1 1 + c1 2 + c1 3 + c1 4 = c 0 + c 1 + c 2 + c 3 + c 4 + 1 ∧ lPlace B g m p c nm = (0, q, c1, n1)) ∨ (∃ f : Nat, ∃ a : Nat, r = 0 ∧ x.1 1 13 = nI f ∧ x.1 1 14 = nI a ∧ (1 ≤ f ∧ f < 9) ∧ lPlace B g m p c nm = fl f a))) (xB dC dI A C nb) (XA A sz)) 0 0 (XA A sz) := by
  refine Met.ofW (cc := cX5_readPlace) (maxL := 4) (ret := (some .boolean)) (by decide) rfl ?_
  intro p9 e s m9 args below meth c9 s₁ B9 hml hv
  obtain ⟨rfl, hsz, hP, hK, hE⟩ := hv
  have hx := B9.exec
  have hb := B9.bytes
  have hr := B9.returns
  have hts := atoms_spec (ws := wsX5_readPlace) B9.pre
  have hown : s.vm.findClass RX5 = some m9.cls := findClass_of_methodNamed B9.named
  subst hsz
  have hEv := hEE.1 _ _ _ hE
  have hS : va_S (XA A s.heap.size) s.heap s.heap [] := va_S.rf
  have hG : XG [1, 2, 3, 4, 5, 6, 8, 9, 12, 13, 14, 15] st st := XG.rf hI
  have hO : OG ad [2, 3, 4] so so := OG.rf hOI
  have hl := lv_entry ([.ref (A 3), .ref (A 1), .ref (A (36 + 20 * 1))]) (n := 4) (Nat.le_of_ble_eq_true rfl)
  rw [lg_entry_eq]
  generalize (lg_sl ([.ref (A 3), .ref (A 1), .ref (A (36 + 20 * 1))]) ++ List.replicate (4 - (lg_sl ([.ref (A 3), .ref (A 1), .ref (A (36 + 20 * 1))])).length) Slot.unset).toArray = ls at hl ⊢
  have hl : lv_has ls 4 [(0, .ref (A 3)), (1, .ref (A 1)), (2, .ref (A (36 + 20 * 1)))] := hl
  have hB1 := hB.2.2.1
  have hB2 := hB.2.2.2.1
  have hF : FX 4 st sl so st sl so := FX.rf
  have hp9 := hT.2.2.2.2.2.2
  have hk1 := tkd_lt (B := B) (g := g) (m := m) (p := p)
  have hk2 := tkx_le (B := B) (g := g) (m := m) (p := p) hp9
  have hk3 := tka_le (B := B) (g := g) (m := m) (p := p) hp9 hB.2.2.1
  have hk4 := tkv_ltc (p := p) hB hp9
  have hk5 := tkw_lt (B := B) (g := g) (m := m) (p := p)
  have hR9 := hR.2.2.2.2.2.1
  refine lv_aload_n hx hb dX5_readPlace_0 rfl (lv_at hl 2 rfl) ?_
  refine va_getN (host := "OffTheLead") (D := (dC, dI)) (ci := 5) (v := .int (st (36 + 20 * 1) 5)) (C := RX4) (T := TX4) (N := 12) hx hb hts ii_X5_readPlace_X4 hown hK hP (36 + 20 * 1) (xw_is (r := (36 + 20 * 1)) (by omega) (xc_pk (i := 1) (o := 0) (by omega) (by omega))) rfl 5 (by decide) (va_Nw.use rfl (nf_X5_70 hEv)) (fun _ hh => hh) rfl dX5_readPlace_1 ?_
  refine zz_top (v := (nI (c 0))) (by show st (36 + 20 * 1) 5 = _; rw [hR.1]) ?_
  refine lv_iconst (v := 5) hx hb dX5_readPlace_4 (by decide) ?_
  refine lv_icmp_lt (tgt := 14) hx hb dX5_readPlace_5 (by decide) (fun c1 => ?_) (fun c1 => ?_)
  · have c1 : (c 0) < 5 := (nI_ltI (a := (c 0)) (b := 5) (by omega) (by omega)).mp c1
    refine lv_aload_n hx hb dX5_readPlace_14 rfl (lv_at hl 1 rfl) ?_
    refine va_callv (va_runV (As := []) (rest := []) ⟨hx, hb, hml, hown, hts⟩ (y_X8_step l dC dI ad E hEE A C nb _ hN st sl so B g m (tkx B g m p) hG.1 hO.1 (CBt.fr hB hF) hT.1 hk2.2) (cwV 0 hts gX5_readPlace_X8_step rfl rfl rfl (by decide +kernel) ⟨Nat.le_of_ble_eq_true rfl, Nat.le_of_ble_eq_true rfl⟩) ⟨fun a U g mk q => ⟨q.1, xPre.blind hEE q.2⟩, va_recv hK hP (ci := 9) (q0 := 1) rfl (xw_is (r := 1) (by omega) (xc_fix (r := 1) (by omega))), fun U hU hW => ⟨rfl, xPre.of hEE hP hK hE hS hU hW⟩⟩ rfl rfl hl.1 rfl (lv_room (Nat.le_of_ble_eq_true rfl)) dX5_readPlace_15 ⟨Nat.le_of_ble_eq_true rfl, Nat.le_of_ble_eq_true rfl⟩) hS (fun q _ h => XA.le hS.1 q h) (XA.le hS.1) (fun x t H locs ht hvm hw hB9 _ _ hS => ?_)
    have hP := xB.at ht hB9
    clear hB9 ht hvm
    obtain ⟨st2, sl3, so4⟩ := x
    obtain ⟨hGst2, hOst2, hFst2, hw⟩ := hw
    dsimp only at hGst2 hOst2 hFst2 hw
    have hO : OG ad [2, 3, 4] so so4 := hO.tr hOst2 (by decide)
    have hP : va_P (dC, dI) vwCl (xw A C nb st2 sl3 so4) _ := hP
    have hG : XG [1, 2, 3, 4, 5, 6, 8, 9, 12, 13, 14, 15] st st2 := hG.tr hGst2 (by decide)
    have hF : FX 4 st sl so st2 sl3 so4 := hF.tr hFst2 (by omega) (by omega)
    have hR : PT c nm st2 sl3 := hR.fr hFst2 (by omega)
    have hT := hw
    have hp9 := hT.2.2.2.2.2.2
    have hk1 := tkd_lt (B := B) (g := g) (m := m) (p := (tkx B g m p))
    have hk2 := tkx_le (B := B) (g := g) (m := m) (p := (tkx B g m p)) hp9
    have hk3 := tka_le (B := B) (g := g) (m := m) (p := (tkx B g m p)) hp9 hB.2.2.1
    have hk4 := tkv_ltc (p := (tkx B g m p)) hB hp9
    have hk5 := tkw_lt (B := B) (g := g) (m := m) (p := (tkx B g m p))
    refine lv_aload_n hx hb dX5_readPlace_18 rfl (lv_at hl 1 rfl) ?_
    refine lv_aload_n hx hb dX5_readPlace_19 rfl (lv_at hl 2 rfl) ?_
    refine va_calli (va_runV (As := [.ref (A (36 + 20 * 1))]) (rest := []) ⟨hx, hb, hml, hown, hts⟩ (y_X8_takeNewName l dC dI ad E hEE A C nb _ hN st2 sl3 so4 B g m (tkx B g m p) c nm hG.1 hO.1 (CBt.fr hB hF) hT hR) (cwV 1 hts gX5_readPlace_X8_takeNewName rfl rfl rfl (by decide +kernel) ⟨Nat.le_of_ble_eq_true rfl, Nat.le_of_ble_eq_true rfl⟩) ⟨fun a U g mk q => ⟨q.1, xPre.blind hEE q.2⟩, va_recv hK hP (ci := 9) (q0 := 1) rfl (xw_is (r := 1) (by omega) (xc_fix (r := 1) (by omega))), fun U hU hW => ⟨rfl, xPre.of hEE hP hK hE hS hU hW⟩⟩ rfl rfl hl.1 rfl (lv_room (Nat.le_of_ble_eq_true rfl)) dX5_readPlace_20 ⟨Nat.le_of_ble_eq_true rfl, Nat.le_of_ble_eq_true rfl⟩) hS (fun q _ h => XA.le hS.1 q h) (XA.le hS.1) (fun r5 x t H locs ht hvm hw hB9 _ _ hS => ?_)
    have hP := xB.at ht hB9
    clear hB9 ht hvm
    obtain ⟨st6, sl7, so8⟩ := x
    obtain ⟨hGst6, hOst6, hFst6, hw⟩ := hw
    dsimp only at hGst6 hOst6 hFst6 hw
    have hO : OG ad [2, 3, 4] so so8 := hO.tr hOst6 (by decide)
    have hP : va_P (dC, dI) vwCl (xw A C nb st6 sl7 so8) _ := hP
    have hG : XG [1, 2, 3, 4, 5, 6, 8, 9, 12, 13, 14, 15] st st6 := hG.tr hGst6 (by decide)
    have hF : FX 4 st sl so st6 sl7 so8 := hF.tr hFst6 (by omega) (by omega)
    have hR : PT c nm st6 sl7 := hR.fr hFst6 (by omega)
    rcases hw with ⟨rfl, hf9, hN9, hf10, hT, hf11, hf12⟩ | ⟨n13, n14, rfl, hf15, hf16, hf17, hf18⟩
    · have hp9 := hT.2.2.2.2.2.2
      have hk1 := tkd_lt (B := B) (g := g) (m := m) (p := (tkx B g m (tkx B g m p)))
      have hk2 := tkx_le (B := B) (g := g) (m := m) (p := (tkx B g m (tkx B g m p))) hp9
      have hk3 := tka_le (B := B) (g := g) (m := m) (p := (tkx B g m (tkx B g m p))) hp9 hB.2.2.1
      have hk4 := tkv_ltc (p := (tkx B g m (tkx B g m p))) hB hp9
      have hk5 := tkw_lt (B := B) (g := g) (m := m) (p := (tkx B g m (tkx B g m p)))
      refine lv_if_ne (tgt := 28) hx hb dX5_readPlace_23 (by decide) (fun _ => ?_) (fun cc => absurd cc (by decide))
      refine lv_aload_n hx hb dX5_readPlace_28 rfl (lv_at hl 1 rfl) ?_
      refine va_getN (host := "OffTheLead") (D := (dC, dI)) (ci := 9) (v := va_rf (so8 1 7)) (C := RX8) (T := TX8) (N := 15) hx hb hts ii_X5_readPlace_X8 hown hK hP 1 (xw_is (r := 1) (by omega) (xc_fix (r := 1) (by omega))) rfl 7 (by decide) (va_Nw.use rfl (nf_X5_29 hEv)) (fun _ hh => hh) rfl dX5_readPlace_29 ?_
      refine zz_topq (r := some (ad (tkw B g m (tkx B g m (tkx B g m p))))) (by rw [hT.2.2.2.2.2.1]) ?_
      refine va_gets (v := .ref (ad 1)) hx hb (EV.word hEv (i := 1) (by decide)) hS hown (hts _ mm_X5_readPlace_1) (fun _ hh => hh) dX5_readPlace_32 ?_
      refine lv_acmp_ne (rx := (some (ad (tkw B g m (tkx B g m (tkx B g m p)))))) (ry := (some (ad 1))) (tgt := 42) hx hb dX5_readPlace_35 (by decide) (fun c3 => ?_) (fun c3 => ?_)
      · have c3 : ¬ (tkw B g m (tkx B g m (tkx B g m p))) = 1 := fun hh => c3 ((EV.eqw hEv (i := (tkw B g m (tkx B g m (tkx B g m p)))) (j := 1) (by omega) (by omega)).mpr hh)
        refine lv_iconst (v := 0) hx hb dX5_readPlace_42 (by decide) ?_
        refine lv_istore_n (lv' := [(3, .int 0), (0, .ref (A 3)), (1, .ref (A 1)), (2, .ref (A (36 + 20 * 1)))]) hx hb dX5_readPlace_43 rfl hl (by decide) rfl (fun ls hl => ?_)
        refine lv_iload_n hx hb dX5_readPlace_44 rfl (lv_at hl 0 rfl) ?_
        refine lv_if_eq (tgt := 52) hx hb dX5_readPlace_45 (by decide) (fun _ => ?_) (fun cc => absurd (by decide) cc)
        refine lv_aload_n hx hb dX5_readPlace_52 rfl (lv_at hl 3 rfl) ?_
        refine lv_aload_n hx hb dX5_readPlace_53 rfl (lv_at hl 2 rfl) ?_
        refine va_getN (host := "OffTheLead") (D := (dC, dI)) (ci := 9) (v := .long (sl7 1 10)) (C := RX8) (T := TX8) (N := 15) hx hb hts ii_X5_readPlace_X8 hown hK hP 1 (xw_is (r := 1) (by omega) (xc_fix (r := 1) (by omega))) rfl 10 (by decide) (va_Nw.use rfl (nf_X5_83 hEv)) (fun _ hh => hh) rfl dX5_readPlace_54 ?_
        refine lv_topl (fun z19 ez19 => ?_)
        refine lv_iload_n hx hb dX5_readPlace_57 rfl (lv_at hl 0 rfl) ?_
        refine va_callv (va_runV (As := [.long z19, .int 0]) (rest := []) ⟨hx, hb, hml, hown, hts⟩ (y_X4_addPlace l dC dI ad E hEE A C nb _ hN st6 sl7 so8 z19 0 B g m (tkx B g m (tkx B g m p)) c nm (tkc B g (tkx B g m p)) (by decide) hG.1 hO.1 (CBt.fr hB hF) hT hR (by rw [ez19]; exact hN9) (hf10) (by omega)) (cwV 2 hts gX5_readPlace_X4_addPlace rfl rfl rfl (by decide +kernel) ⟨Nat.le_of_ble_eq_true rfl, Nat.le_of_ble_eq_true rfl⟩) ⟨fun a U g mk q => ⟨q.1, xPre.blind hEE q.2⟩, va_recv hK hP (ci := 5) (q0 := (36 + 20 * 1)) rfl (xw_is (r := (36 + 20 * 1)) (by omega) (xc_pk (i := 1) (o := 0) (by omega) (by omega))), fun U hU hW => ⟨rfl, xPre.of hEE hP hK hE hS hU hW⟩⟩ rfl rfl hl.1 rfl (lv_room (Nat.le_of_ble_eq_true rfl)) dX5_readPlace_58 ⟨Nat.le_of_ble_eq_true rfl, Nat.le_of_ble_eq_true rfl⟩) hS (fun q _ h => XA.le hS.1 q h) (XA.le hS.1) (fun x t H locs ht hvm hw hB9 _ _ hS => ?_)
        have hP := xB.at ht hB9
        clear hB9 ht hvm
        obtain ⟨st21, sl22, so23⟩ := x
        obtain ⟨hGst21, hOst21, hFst21, hw⟩ := hw
        dsimp only at hGst21 hOst21 hFst21 hw
        have hO : OG ad [2, 3, 4] so so23 := hO.tr hOst21 (by decide)
        have hP : va_P (dC, dI) vwCl (xw A C nb st21 sl22 so23) _ := hP
        have hG : XG [1, 2, 3, 4, 5, 6, 8, 9, 12, 13, 14, 15] st st21 := hG.tr hGst21 (by decide)
        have hF : FX 4 st sl so st21 sl22 so23 := hF.tr hFst21 (by omega) (by omega)
        obtain ⟨hR, hT, hf24⟩ := hw
        have hp9 := hT.2.2.2.2.2.2
        have hk1 := tkd_lt (B := B) (g := g) (m := m) (p := (tkx B g m (tkx B g m p)))
        have hk2 := tkx_le (B := B) (g := g) (m := m) (p := (tkx B g m (tkx B g m p))) hp9
        have hk3 := tka_le (B := B) (g := g) (m := m) (p := (tkx B g m (tkx B g m p))) hp9 hB.2.2.1
        have hk4 := tkv_ltc (p := (tkx B g m (tkx B g m p))) hB hp9
        have hk5 := tkw_lt (B := B) (g := g) (m := m) (p := (tkx B g m (tkx B g m p)))
        refine lv_aload_n hx hb dX5_readPlace_61 rfl (lv_at hl 2 rfl) ?_
        refine lv_bipush (v := 59) hx hb dX5_readPlace_62 (by decide) ?_
        refine va_calli (va_runV (As := [.int 59]) (rest := []) ⟨hx, hb, hml, hown, hts⟩ (y_X8_takeMark l dC dI ad E hEE A C nb _ hN st21 sl22 so23 B g m (tkx B g m (tkx B g m p)) hG.1 hO.1 (CBt.fr hB hF) hT) (cwV 1 hts gX5_readPlace_X8_takeMark rfl rfl rfl (by decide +kernel) ⟨Nat.le_of_ble_eq_true rfl, Nat.le_of_ble_eq_true rfl⟩) ⟨fun a U g mk q => ⟨q.1, xPre.blind hEE q.2⟩, va_recv hK hP (ci := 9) (q0 := 1) rfl (xw_is (r := 1) (by omega) (xc_fix (r := 1) (by omega))), fun U hU hW => ⟨rfl, xPre.of hEE hP hK hE hS hU hW⟩⟩ rfl rfl hl.1 rfl (lv_room (Nat.le_of_ble_eq_true rfl)) dX5_readPlace_64 ⟨Nat.le_of_ble_eq_true rfl, Nat.le_of_ble_eq_true rfl⟩) hS (fun q _ h => XA.le hS.1 q h) (XA.le hS.1) (fun r25 x t H locs ht hvm hw hB9 _ _ hS => ?_)
        have hP := xB.at ht hB9
        clear hB9 ht hvm
        obtain ⟨st26, sl27, so28⟩ := x
        obtain ⟨hGst26, hOst26, hFst26, hw⟩ := hw
        dsimp only at hGst26 hOst26 hFst26 hw
        have hO : OG ad [2, 3, 4] so so28 := hO.tr hOst26 (by decide)
        have hP : va_P (dC, dI) vwCl (xw A C nb st26 sl27 so28) _ := hP
        have hG : XG [1, 2, 3, 4, 5, 6, 8, 9, 12, 13, 14, 15] st st26 := hG.tr hGst26 (by decide)
        have hF : FX 4 st sl so st26 sl27 so28 := hF.tr hFst26 (by omega) (by omega)
        have hR : PT (uN c 0 (c 0 + 1)) (uM nm 0 (c 0) (tkc B g (tkx B g m p))) st26 sl27 := hR.fr hFst26 (by omega)
        rcases hw with ⟨rfl, hT, hf29, hf30⟩ | ⟨n31, n32, rfl, hf33, hf34, hf35, hf36⟩
        · have hp9 := hT.2.2.2.2.2.2
          have hk1 := tkd_lt (B := B) (g := g) (m := m) (p := (tkx B g m (tkx B g m (tkx B g m p))))
          have hk2 := tkx_le (B := B) (g := g) (m := m) (p := (tkx B g m (tkx B g m (tkx B g m p)))) hp9
          have hk3 := tka_le (B := B) (g := g) (m := m) (p := (tkx B g m (tkx B g m (tkx B g m p)))) hp9 hB.2.2.1
          have hk4 := tkv_ltc (p := (tkx B g m (tkx B g m (tkx B g m p)))) hB hp9
          have hk5 := tkw_lt (B := B) (g := g) (m := m) (p := (tkx B g m (tkx B g m (tkx B g m p))))
          exact W.zret (v := 1) hx hb hr rfl (fun t ht hW => ⟨⟨1, (st26, sl27, so28), rfl, ⟨hG, hO, hF, Or.inl (⟨(uN c 0 (c 0 + 1)), (uM nm 0 (c 0) (tkc B g (tkx B g m p))), (tkx B g m (tkx B g m (tkx B g m p))), rfl, hR, hT, by show st26 1 13 = st 1 13; rw [hf29, hf24, hf11, (hFst2 1 13 (by decide)).1], uN_sum (a := 0) (by decide) rfl, by unfold lPlace; rw [if_neg (by omega), hf12, if_neg c3, hf30]⟩)⟩, xB.of ht hP⟩, hS.F ht⟩) hS.2.2 dX5_readPlace_67
        · exact W.zret (v := 0) hx hb hr rfl (fun t ht hW => ⟨⟨0, (st26, sl27, so28), rfl, ⟨hG, hO, hF, Or.inr (⟨n31, n32, rfl, by show st26 1 13 = _; rw [hf33], by show st26 1 14 = _; rw [hf34], by omega, by unfold lPlace; rw [if_neg (by omega), hf12, if_neg c3, hf36]⟩)⟩, xB.of ht hP⟩, hS.F ht⟩) hS.2.2 dX5_readPlace_67
      · have c3 : (tkw B g m (tkx B g m (tkx B g m p))) = 1 := (EV.eqw hEv (i := (tkw B g m (tkx B g m (tkx B g m p)))) (j := 1) (by omega) (by omega)).mp c3
        refine lv_iconst (v := 1) hx hb dX5_readPlace_38 (by decide) ?_
        refine lv_goto (tgt := 43) hx hb dX5_readPlace_39 (by decide) ?_
        refine lv_istore_n (lv' := [(3, .int 1), (0, .ref (A 3)), (1, .ref (A 1)), (2, .ref (A (36 + 20 * 1)))]) hx hb dX5_readPlace_43 rfl hl (by decide) rfl (fun ls hl => ?_)
        refine lv_iload_n hx hb dX5_readPlace_44 rfl (lv_at hl 0 rfl) ?_
        refine lv_if_eq (tgt := 52) hx hb dX5_readPlace_45 (by decide) (fun cc => absurd cc (by decide)) (fun _ => ?_)
        refine lv_aload_n hx hb dX5_readPlace_48 rfl (lv_at hl 2 rfl) ?_
        refine va_callv (va_runV (As := []) (rest := []) ⟨hx, hb, hml, hown, hts⟩ (y_X8_step l dC dI ad E hEE A C nb _ hN st6 sl7 so8 B g m (tkx B g m (tkx B g m (tkx B g m p))) hG.1 hO.1 (CBt.fr hB hF) hT.1 hk2.2) (cwV 0 hts gX5_readPlace_X8_step rfl rfl rfl (by decide +kernel) ⟨Nat.le_of_ble_eq_true rfl, Nat.le_of_ble_eq_true rfl⟩) ⟨fun a U g mk q => ⟨q.1, xPre.blind hEE q.2⟩, va_recv hK hP (ci := 9) (q0 := 1) rfl (xw_is (r := 1) (by omega) (xc_fix (r := 1) (by omega))), fun U hU hW => ⟨rfl, xPre.of hEE hP hK hE hS hU hW⟩⟩ rfl rfl hl.1 rfl (lv_room (Nat.le_of_ble_eq_true rfl)) dX5_readPlace_49 ⟨Nat.le_of_ble_eq_true rfl, Nat.le_of_ble_eq_true rfl⟩) hS (fun q _ h => XA.le hS.1 q h) (XA.le hS.1) (fun x t H locs ht hvm hw hB9 _ _ hS => ?_)
        have hP := xB.at ht hB9
        clear hB9 ht hvm
        obtain ⟨st38, sl39, so40⟩ := x
        obtain ⟨hGst38, hOst38, hFst38, hw⟩ := hw
        dsimp only at hGst38 hOst38 hFst38 hw
        have hO : OG ad [2, 3, 4] so so40 := hO.tr hOst38 (by decide)
        have hP : va_P (dC, dI) vwCl (xw A C nb st38 sl39 so40) _ := hP
        have hG : XG [1, 2, 3, 4, 5, 6, 8, 9, 12, 13, 14, 15] st st38 := hG.tr hGst38 (by decide)
        have hF : FX 4 st sl so st38 sl39 so40 := hF.tr hFst38 (by omega) (by omega)
        have hR : PT c nm st38 sl39 := hR.fr hFst38 (by omega)
        have hN9 : sl39 1 10 = lN (tkc B g (tkx B g m p)) := by rw [(hFst38 1 10 (by decide)).2.1]; exact hN9
        have hT := hw
        have hp9 := hT.2.2.2.2.2.2
        have hk1 := tkd_lt (B := B) (g := g) (m := m) (p := (tkx B g m (tkx B g m (tkx B g m p))))
        have hk2 := tkx_le (B := B) (g := g) (m := m) (p := (tkx B g m (tkx B g m (tkx B g m p)))) hp9
        have hk3 := tka_le (B := B) (g := g) (m := m) (p := (tkx B g m (tkx B g m (tkx B g m p)))) hp9 hB.2.2.1
        have hk4 := tkv_ltc (p := (tkx B g m (tkx B g m (tkx B g m p)))) hB hp9
        have hk5 := tkw_lt (B := B) (g := g) (m := m) (p := (tkx B g m (tkx B g m (tkx B g m p))))
        refine lv_aload_n hx hb dX5_readPlace_52 rfl (lv_at hl 3 rfl) ?_
        refine lv_aload_n hx hb dX5_readPlace_53 rfl (lv_at hl 2 rfl) ?_
        refine va_getN (host := "OffTheLead") (D := (dC, dI)) (ci := 9) (v := .long (sl39 1 10)) (C := RX8) (T := TX8) (N := 15) hx hb hts ii_X5_readPlace_X8 hown hK hP 1 (xw_is (r := 1) (by omega) (xc_fix (r := 1) (by omega))) rfl 10 (by decide) (va_Nw.use rfl (nf_X5_83 hEv)) (fun _ hh => hh) rfl dX5_readPlace_54 ?_
        refine lv_topl (fun z41 ez41 => ?_)
        refine lv_iload_n hx hb dX5_readPlace_57 rfl (lv_at hl 0 rfl) ?_
        refine va_callv (va_runV (As := [.long z41, .int 1]) (rest := []) ⟨hx, hb, hml, hown, hts⟩ (y_X4_addPlace l dC dI ad E hEE A C nb _ hN st38 sl39 so40 z41 1 B g m (tkx B g m (tkx B g m (tkx B g m p))) c nm (tkc B g (tkx B g m p)) (by decide) hG.1 hO.1 (CBt.fr hB hF) hT hR (by rw [ez41]; exact hN9) (hf10) (by omega)) (cwV 2 hts gX5_readPlace_X4_addPlace rfl rfl rfl (by decide +kernel) ⟨Nat.le_of_ble_eq_true rfl, Nat.le_of_ble_eq_true rfl⟩) ⟨fun a U g mk q => ⟨q.1, xPre.blind hEE q.2⟩, va_recv hK hP (ci := 5) (q0 := (36 + 20 * 1)) rfl (xw_is (r := (36 + 20 * 1)) (by omega) (xc_pk (i := 1) (o := 0) (by omega) (by omega))), fun U hU hW => ⟨rfl, xPre.of hEE hP hK hE hS hU hW⟩⟩ rfl rfl hl.1 rfl (lv_room (Nat.le_of_ble_eq_true rfl)) dX5_readPlace_58 ⟨Nat.le_of_ble_eq_true rfl, Nat.le_of_ble_eq_true rfl⟩) hS (fun q _ h => XA.le hS.1 q h) (XA.le hS.1) (fun x t H locs ht hvm hw hB9 _ _ hS => ?_)
        have hP := xB.at ht hB9
        clear hB9 ht hvm
        obtain ⟨st43, sl44, so45⟩ := x
        obtain ⟨hGst43, hOst43, hFst43, hw⟩ := hw
        dsimp only at hGst43 hOst43 hFst43 hw
        have hO : OG ad [2, 3, 4] so so45 := hO.tr hOst43 (by decide)
        have hP : va_P (dC, dI) vwCl (xw A C nb st43 sl44 so45) _ := hP
        have hG : XG [1, 2, 3, 4, 5, 6, 8, 9, 12, 13, 14, 15] st st43 := hG.tr hGst43 (by decide)
        have hF : FX 4 st sl so st43 sl44 so45 := hF.tr hFst43 (by omega) (by omega)
        obtain ⟨hR, hT, hf46⟩ := hw
        have hp9 := hT.2.2.2.2.2.2
        have hk1 := tkd_lt (B := B) (g := g) (m := m) (p := (tkx B g m (tkx B g m (tkx B g m p))))
        have hk2 := tkx_le (B := B) (g := g) (m := m) (p := (tkx B g m (tkx B g m (tkx B g m p)))) hp9
        have hk3 := tka_le (B := B) (g := g) (m := m) (p := (tkx B g m (tkx B g m (tkx B g m p)))) hp9 hB.2.2.1
        have hk4 := tkv_ltc (p := (tkx B g m (tkx B g m (tkx B g m p)))) hB hp9
        have hk5 := tkw_lt (B := B) (g := g) (m := m) (p := (tkx B g m (tkx B g m (tkx B g m p))))
        refine lv_aload_n hx hb dX5_readPlace_61 rfl (lv_at hl 2 rfl) ?_
        refine lv_bipush (v := 59) hx hb dX5_readPlace_62 (by decide) ?_
        refine va_calli (va_runV (As := [.int 59]) (rest := []) ⟨hx, hb, hml, hown, hts⟩ (y_X8_takeMark l dC dI ad E hEE A C nb _ hN st43 sl44 so45 B g m (tkx B g m (tkx B g m (tkx B g m p))) hG.1 hO.1 (CBt.fr hB hF) hT) (cwV 1 hts gX5_readPlace_X8_takeMark rfl rfl rfl (by decide +kernel) ⟨Nat.le_of_ble_eq_true rfl, Nat.le_of_ble_eq_true rfl⟩) ⟨fun a U g mk q => ⟨q.1, xPre.blind hEE q.2⟩, va_recv hK hP (ci := 9) (q0 := 1) rfl (xw_is (r := 1) (by omega) (xc_fix (r := 1) (by omega))), fun U hU hW => ⟨rfl, xPre.of hEE hP hK hE hS hU hW⟩⟩ rfl rfl hl.1 rfl (lv_room (Nat.le_of_ble_eq_true rfl)) dX5_readPlace_64 ⟨Nat.le_of_ble_eq_true rfl, Nat.le_of_ble_eq_true rfl⟩) hS (fun q _ h => XA.le hS.1 q h) (XA.le hS.1) (fun r47 x t H locs ht hvm hw hB9 _ _ hS => ?_)
        have hP := xB.at ht hB9
        clear hB9 ht hvm
        obtain ⟨st48, sl49, so50⟩ := x
        obtain ⟨hGst48, hOst48, hFst48, hw⟩ := hw
        dsimp only at hGst48 hOst48 hFst48 hw
        have hO : OG ad [2, 3, 4] so so50 := hO.tr hOst48 (by decide)
        have hP : va_P (dC, dI) vwCl (xw A C nb st48 sl49 so50) _ := hP
        have hG : XG [1, 2, 3, 4, 5, 6, 8, 9, 12, 13, 14, 15] st st48 := hG.tr hGst48 (by decide)
        have hF : FX 4 st sl so st48 sl49 so50 := hF.tr hFst48 (by omega) (by omega)
        have hR : PT (uN c 0 (c 0 + 1)) (uM nm 0 (c 0) (tkc B g (tkx B g m p))) st48 sl49 := hR.fr hFst48 (by omega)
        rcases hw with ⟨rfl, hT, hf51, hf52⟩ | ⟨n53, n54, rfl, hf55, hf56, hf57, hf58⟩
        · have hp9 := hT.2.2.2.2.2.2
          have hk1 := tkd_lt (B := B) (g := g) (m := m) (p := (tkx B g m (tkx B g m (tkx B g m (tkx B g m p)))))
          have hk2 := tkx_le (B := B) (g := g) (m := m) (p := (tkx B g m (tkx B g m (tkx B g m (tkx B g m p))))) hp9
          have hk3 := tka_le (B := B) (g := g) (m := m) (p := (tkx B g m (tkx B g m (tkx B g m (tkx B g m p))))) hp9 hB.2.2.1
          have hk4 := tkv_ltc (p := (tkx B g m (tkx B g m (tkx B g m (tkx B g m p))))) hB hp9
          have hk5 := tkw_lt (B := B) (g := g) (m := m) (p := (tkx B g m (tkx B g m (tkx B g m (tkx B g m p)))))
          exact W.zret (v := 1) hx hb hr rfl (fun t ht hW => ⟨⟨1, (st48, sl49, so50), rfl, ⟨hG, hO, hF, Or.inl (⟨(uN c 0 (c 0 + 1)), (uM nm 0 (c 0) (tkc B g (tkx B g m p))), (tkx B g m (tkx B g m (tkx B g m (tkx B g m p)))), rfl, hR, hT, by show st48 1 13 = st 1 13; rw [hf51, hf46, (hFst38 1 13 (by decide)).1, hf11, (hFst2 1 13 (by decide)).1], uN_sum (a := 0) (by decide) rfl, by unfold lPlace; rw [if_neg (by omega), hf12, if_pos c3, hf52]⟩)⟩, xB.of ht hP⟩, hS.F ht⟩) hS.2.2 dX5_readPlace_67
        · exact W.zret (v := 0) hx hb hr rfl (fun t ht hW => ⟨⟨0, (st48, sl49, so50), rfl, ⟨hG, hO, hF, Or.inr (⟨n53, n54, rfl, by show st48 1 13 = _; rw [hf55], by show st48 1 14 = _; rw [hf56], by omega, by unfold lPlace; rw [if_neg (by omega), hf12, if_pos c3, hf58]⟩)⟩, xB.of ht hP⟩, hS.F ht⟩) hS.2.2 dX5_readPlace_67
    · refine lv_if_ne (tgt := 28) hx hb dX5_readPlace_23 (by decide) (fun cc => absurd (by decide) cc) (fun _ => ?_)
      refine lv_iconst (v := 0) hx hb dX5_readPlace_26 (by decide) ?_
      exact W.zret (v := 0) hx hb hr rfl (fun t ht hW => ⟨⟨0, (st6, sl7, so8), rfl, ⟨hG, hO, hF, Or.inr (⟨n13, n14, rfl, by show st6 1 13 = _; rw [hf15], by show st6 1 14 = _; rw [hf16], by omega, by unfold lPlace; rw [if_neg (by omega), hf18]⟩)⟩, xB.of ht hP⟩, hS.F ht⟩) hS.2.2 dX5_readPlace_27
  · have c1 : ¬ (c 0) < 5 := fun hh => c1 ((nI_ltI (a := (c 0)) (b := 5) (by omega) (by omega)).mpr hh)
    refine lv_aload_n hx hb dX5_readPlace_8 rfl (lv_at hl 1 rfl) ?_
    refine lv_iconst (v := 4) hx hb dX5_readPlace_9 (by decide) ?_
    refine va_calli (va_runV (As := [.int 4]) (rest := []) ⟨hx, hb, hml, hown, hts⟩ (y_X8_refuse l dC dI ad E hEE A C nb _ hN st sl so 4 B g m p (by omega) hG.1 hO.1 (CBt.fr hB hF) hT) (cwV 1 hts gX5_readPlace_X8_refuse rfl rfl rfl (by decide +kernel) ⟨Nat.le_of_ble_eq_true rfl, Nat.le_of_ble_eq_true rfl⟩) ⟨fun a U g mk q => ⟨q.1, xPre.blind hEE q.2⟩, va_recv hK hP (ci := 9) (q0 := 1) rfl (xw_is (r := 1) (by omega) (xc_fix (r := 1) (by omega))), fun U hU hW => ⟨rfl, xPre.of hEE hP hK hE hS hU hW⟩⟩ rfl rfl hl.1 rfl (lv_room (Nat.le_of_ble_eq_true rfl)) dX5_readPlace_10 ⟨Nat.le_of_ble_eq_true rfl, Nat.le_of_ble_eq_true rfl⟩) hS (fun q _ h => XA.le hS.1 q h) (XA.le hS.1) (fun r59 x t H locs ht hvm hw hB9 _ _ hS => ?_)
    have hP := xB.at ht hB9
    clear hB9 ht hvm
    obtain ⟨st60, sl61, so62⟩ := x
    obtain ⟨hGst60, hOst60, hFst60, hw⟩ := hw
    dsimp only at hGst60 hOst60 hFst60 hw
    have hO : OG ad [2, 3, 4] so so62 := hO.tr hOst60 (by decide)
    have hP : va_P (dC, dI) vwCl (xw A C nb st60 sl61 so62) _ := hP
    have hG : XG [1, 2, 3, 4, 5, 6, 8, 9, 12, 13, 14, 15] st st60 := hG.tr hGst60 (by decide)
    have hF : FX 4 st sl so st60 sl61 so62 := hF.tr hFst60 (by omega) (by omega)
    have hR : PT c nm st60 sl61 := hR.fr hFst60 (by omega)
    obtain ⟨rfl, hf63, hf64, hT⟩ := hw
    have hp9 := hT.2.2.2.2.2.2
    have hk1 := tkd_lt (B := B) (g := g) (m := m) (p := p)
    have hk2 := tkx_le (B := B) (g := g) (m := m) (p := p) hp9
    have hk3 := tka_le (B := B) (g := g) (m := m) (p := p) hp9 hB.2.2.1
    have hk4 := tkv_ltc (p := p) hB hp9
    have hk5 := tkw_lt (B := B) (g := g) (m := m) (p := p)
    exact W.zret (v := 0) hx hb hr rfl (fun t ht hW => ⟨⟨0, (st60, sl61, so62), rfl, ⟨hG, hO, hF, Or.inr (⟨4, (tka B g m p), rfl, by show st60 1 13 = _; rw [hf63], by show st60 1 14 = _; rw [hf64], by omega, by unfold lPlace; rw [if_pos (by omega)]⟩)⟩, xB.of ht hP⟩, hS.F ht⟩) hS.2.2 dX5_readPlace_13
set_option maxHeartbeats 4000000 in
set_option maxRecDepth 100000 in
theorem y_X5_readPerson (l : Launch) (dC : Nat → ClassId) (dI : Nat → Nat → Nat) (ad : Nat → Nat) (E : EP) (hEE : EC ad E) (A : Nat → Nat) (C : Nat → ClassId) (nb sz : Nat) (hN : XN A) (st : Nat → Nat → Int32) (sl : Nat → Nat → Int64) (so : Nat → XR) (B : Nat → Nat) (g m : Nat) (p : Nat) (c : Nat → Nat) (nm : Nat → Nat → Nat) (hI : XI st) (hOI : OI ad so) (hB : CBt B g m st) (hT : TC B g m p ad st sl so) (hR : PT c nm st sl) (hw : tkw B g m p = 2) : Met l yX5_readPerson wsX5_readPerson ({ frames := 8, cells := 0, slots := 0, locals := 172 }) (va_Pc [.ref (A 3), .ref (A 1), .ref (A (36 + 20 * 1))] (xPre E dC dI A C nb sz st sl so)) (va_Qi (fun (r : Int32) (x : XT) => XG [1, 2, 3, 4, 5, 6, 8, 9, 12, 13, 14, 15] st x.1 ∧ OG ad [2, 3, 4] so x.2.2 ∧ FX 4 st sl so x.1 x.2.1 x.2.2 ∧ ((∃ c1 : Nat → Nat, ∃ n1 : Nat → Nat → Nat, ∃ q : Nat, r = 1 ∧ PT c1 n1 x.1 x.2.1 ∧ TC B g m q ad x.1 x.2.1 x.2.2 ∧ x.1 1 13 = st 1 13 ∧ c1 0 + c1 1 + c1 2 + c1 3 + c1 4 = c 0 + c 1 + c 2 + c 3 + c 4 + 1 ∧ lPerson B g m p c nm = (0, q, c1, n1)) ∨ (∃ f : Nat, ∃ a : Nat, r = 0 ∧ x.1 1 13 = nI f ∧ x.1 1 14 = nI a ∧ (1 ≤ f ∧ f < 9) ∧ lPerson B g m p c nm = fl f a))) (xB dC dI A C nb) (XA A sz)) 0 0 (XA A sz) := by
  refine Met.ofW (cc := cX5_readPerson) (maxL := 5) (ret := (some .boolean)) (by decide) rfl ?_
  intro p9 e s m9 args below meth c9 s₁ B9 hml hv
  obtain ⟨rfl, hsz, hP, hK, hE⟩ := hv
  have hx := B9.exec
  have hb := B9.bytes
  have hr := B9.returns
  have hts := atoms_spec (ws := wsX5_readPerson) B9.pre
  have hown : s.vm.findClass RX5 = some m9.cls := findClass_of_methodNamed B9.named
  subst hsz
  have hEv := hEE.1 _ _ _ hE
  have hS : va_S (XA A s.heap.size) s.heap s.heap [] := va_S.rf
  have hG : XG [1, 2, 3, 4, 5, 6, 8, 9, 12, 13, 14, 15] st st := XG.rf hI
  have hO : OG ad [2, 3, 4] so so := OG.rf hOI
  have hl := lv_entry ([.ref (A 3), .ref (A 1), .ref (A (36 + 20 * 1))]) (n := 5) (Nat.le_of_ble_eq_true rfl)
  rw [lg_entry_eq]
  generalize (lg_sl ([.ref (A 3), .ref (A 1), .ref (A (36 + 20 * 1))]) ++ List.replicate (5 - (lg_sl ([.ref (A 3), .ref (A 1), .ref (A (36 + 20 * 1))])).length) Slot.unset).toArray = ls at hl ⊢
  have hl : lv_has ls 5 [(0, .ref (A 3)), (1, .ref (A 1)), (2, .ref (A (36 + 20 * 1)))] := hl
  have hB1 := hB.2.2.1
  have hB2 := hB.2.2.2.1
  have hF : FX 4 st sl so st sl so := FX.rf
  have hp9 := hT.2.2.2.2.2.2
  have hk1 := tkd_lt (B := B) (g := g) (m := m) (p := p)
  have hk2 := tkx_le (B := B) (g := g) (m := m) (p := p) hp9
  have hk3 := tka_le (B := B) (g := g) (m := m) (p := p) hp9 hB.2.2.1
  have hk4 := tkv_ltc (p := p) hB hp9
  have hk5 := tkw_lt (B := B) (g := g) (m := m) (p := p)
  have hR9 := hR.2.2.2.2.2.1
  refine lv_aload_n hx hb dX5_readPerson_0 rfl (lv_at hl 2 rfl) ?_
  refine va_getN (host := "OffTheLead") (D := (dC, dI)) (ci := 5) (v := .int (st (36 + 20 * 1) 6)) (C := RX4) (T := TX4) (N := 12) hx hb hts ii_X5_readPerson_X4 hown hK hP (36 + 20 * 1) (xw_is (r := (36 + 20 * 1)) (by omega) (xc_pk (i := 1) (o := 0) (by omega) (by omega))) rfl 6 (by decide) (va_Nw.use rfl (nf_X5_94 hEv)) (fun _ hh => hh) rfl dX5_readPerson_1 ?_
  refine zz_top (v := (nI (c 1))) (by show st (36 + 20 * 1) 6 = _; rw [hR.2.1]) ?_
  refine lv_bipush (v := 8) hx hb dX5_readPerson_4 (by decide) ?_
  refine lv_icmp_lt (tgt := 15) hx hb dX5_readPerson_6 (by decide) (fun c1 => ?_) (fun c1 => ?_)
  · have c1 : (c 1) < 8 := (nI_ltI (a := (c 1)) (b := 8) (by omega) (by omega)).mp c1
    refine lv_aload_n hx hb dX5_readPerson_15 rfl (lv_at hl 1 rfl) ?_
    refine va_callv (va_runV (As := []) (rest := []) ⟨hx, hb, hml, hown, hts⟩ (y_X8_step l dC dI ad E hEE A C nb _ hN st sl so B g m (tkx B g m p) hG.1 hO.1 (CBt.fr hB hF) hT.1 hk2.2) (cwV 0 hts gX5_readPerson_X8_step rfl rfl rfl (by decide +kernel) ⟨Nat.le_of_ble_eq_true rfl, Nat.le_of_ble_eq_true rfl⟩) ⟨fun a U g mk q => ⟨q.1, xPre.blind hEE q.2⟩, va_recv hK hP (ci := 9) (q0 := 1) rfl (xw_is (r := 1) (by omega) (xc_fix (r := 1) (by omega))), fun U hU hW => ⟨rfl, xPre.of hEE hP hK hE hS hU hW⟩⟩ rfl rfl hl.1 rfl (lv_room (Nat.le_of_ble_eq_true rfl)) dX5_readPerson_16 ⟨Nat.le_of_ble_eq_true rfl, Nat.le_of_ble_eq_true rfl⟩) hS (fun q _ h => XA.le hS.1 q h) (XA.le hS.1) (fun x t H locs ht hvm hw hB9 _ _ hS => ?_)
    have hP := xB.at ht hB9
    clear hB9 ht hvm
    obtain ⟨st2, sl3, so4⟩ := x
    obtain ⟨hGst2, hOst2, hFst2, hw⟩ := hw
    dsimp only at hGst2 hOst2 hFst2 hw
    have hO : OG ad [2, 3, 4] so so4 := hO.tr hOst2 (by decide)
    have hP : va_P (dC, dI) vwCl (xw A C nb st2 sl3 so4) _ := hP
    have hG : XG [1, 2, 3, 4, 5, 6, 8, 9, 12, 13, 14, 15] st st2 := hG.tr hGst2 (by decide)
    have hF : FX 4 st sl so st2 sl3 so4 := hF.tr hFst2 (by omega) (by omega)
    have hR : PT c nm st2 sl3 := hR.fr hFst2 (by omega)
    have hT := hw
    have hp9 := hT.2.2.2.2.2.2
    have hk1 := tkd_lt (B := B) (g := g) (m := m) (p := (tkx B g m p))
    have hk2 := tkx_le (B := B) (g := g) (m := m) (p := (tkx B g m p)) hp9
    have hk3 := tka_le (B := B) (g := g) (m := m) (p := (tkx B g m p)) hp9 hB.2.2.1
    have hk4 := tkv_ltc (p := (tkx B g m p)) hB hp9
    have hk5 := tkw_lt (B := B) (g := g) (m := m) (p := (tkx B g m p))
    refine lv_aload_n hx hb dX5_readPerson_19 rfl (lv_at hl 1 rfl) ?_
    refine lv_aload_n hx hb dX5_readPerson_20 rfl (lv_at hl 2 rfl) ?_
    refine va_calli (va_runV (As := [.ref (A (36 + 20 * 1))]) (rest := []) ⟨hx, hb, hml, hown, hts⟩ (y_X8_takeNewName l dC dI ad E hEE A C nb _ hN st2 sl3 so4 B g m (tkx B g m p) c nm hG.1 hO.1 (CBt.fr hB hF) hT hR) (cwV 1 hts gX5_readPerson_X8_takeNewName rfl rfl rfl (by decide +kernel) ⟨Nat.le_of_ble_eq_true rfl, Nat.le_of_ble_eq_true rfl⟩) ⟨fun a U g mk q => ⟨q.1, xPre.blind hEE q.2⟩, va_recv hK hP (ci := 9) (q0 := 1) rfl (xw_is (r := 1) (by omega) (xc_fix (r := 1) (by omega))), fun U hU hW => ⟨rfl, xPre.of hEE hP hK hE hS hU hW⟩⟩ rfl rfl hl.1 rfl (lv_room (Nat.le_of_ble_eq_true rfl)) dX5_readPerson_21 ⟨Nat.le_of_ble_eq_true rfl, Nat.le_of_ble_eq_true rfl⟩) hS (fun q _ h => XA.le hS.1 q h) (XA.le hS.1) (fun r5 x t H locs ht hvm hw hB9 _ _ hS => ?_)
    have hP := xB.at ht hB9
    clear hB9 ht hvm
    obtain ⟨st6, sl7, so8⟩ := x
    obtain ⟨hGst6, hOst6, hFst6, hw⟩ := hw
    dsimp only at hGst6 hOst6 hFst6 hw
    have hO : OG ad [2, 3, 4] so so8 := hO.tr hOst6 (by decide)
    have hP : va_P (dC, dI) vwCl (xw A C nb st6 sl7 so8) _ := hP
    have hG : XG [1, 2, 3, 4, 5, 6, 8, 9, 12, 13, 14, 15] st st6 := hG.tr hGst6 (by decide)
    have hF : FX 4 st sl so st6 sl7 so8 := hF.tr hFst6 (by omega) (by omega)
    have hR : PT c nm st6 sl7 := hR.fr hFst6 (by omega)
    rcases hw with ⟨rfl, hf9, hN9, hf10, hT, hf11, hf12⟩ | ⟨n13, n14, rfl, hf15, hf16, hf17, hf18⟩
    · have hp9 := hT.2.2.2.2.2.2
      have hk1 := tkd_lt (B := B) (g := g) (m := m) (p := (tkx B g m (tkx B g m p)))
      have hk2 := tkx_le (B := B) (g := g) (m := m) (p := (tkx B g m (tkx B g m p))) hp9
      have hk3 := tka_le (B := B) (g := g) (m := m) (p := (tkx B g m (tkx B g m p))) hp9 hB.2.2.1
      have hk4 := tkv_ltc (p := (tkx B g m (tkx B g m p))) hB hp9
      have hk5 := tkw_lt (B := B) (g := g) (m := m) (p := (tkx B g m (tkx B g m p)))
      refine lv_if_eq (tgt := 36) hx hb dX5_readPerson_24 (by decide) (fun cc => absurd cc (by decide)) (fun _ => ?_)
      refine lv_aload_n hx hb dX5_readPerson_27 rfl (lv_at hl 1 rfl) ?_
      refine lv_aload_n hx hb dX5_readPerson_28 rfl (lv_at hl 2 rfl) ?_
      refine lv_iconst (v := 0) hx hb dX5_readPerson_29 (by decide) ?_
      refine va_calli (va_runV (As := [.ref (A (36 + 20 * 1)), .int 0]) (rest := []) ⟨hx, hb, hml, hown, hts⟩ (y_takeNamed0 l dC dI ad E hEE A C nb _ hN st6 sl7 so8 B g m (tkx B g m (tkx B g m p)) c nm hG.1 hO.1 (CBt.fr hB hF) hT hR) (cwV 2 hts gX5_readPerson_X8_takeNamed rfl rfl rfl (by decide +kernel) ⟨Nat.le_of_ble_eq_true rfl, Nat.le_of_ble_eq_true rfl⟩) ⟨fun a U g mk q => ⟨q.1, xPre.blind hEE q.2⟩, va_recv hK hP (ci := 9) (q0 := 1) rfl (xw_is (r := 1) (by omega) (xc_fix (r := 1) (by omega))), fun U hU hW => ⟨rfl, xPre.of hEE hP hK hE hS hU hW⟩⟩ rfl rfl hl.1 rfl (lv_room (Nat.le_of_ble_eq_true rfl)) dX5_readPerson_30 ⟨Nat.le_of_ble_eq_true rfl, Nat.le_of_ble_eq_true rfl⟩) hS (fun q _ h => XA.le hS.1 q h) (XA.le hS.1) (fun r19 x t H locs ht hvm hw hB9 _ _ hS => ?_)
      have hP := xB.at ht hB9
      clear hB9 ht hvm
      obtain ⟨st20, sl21, so22⟩ := x
      obtain ⟨hGst20, hOst20, hFst20, hw⟩ := hw
      dsimp only at hGst20 hOst20 hFst20 hw
      have hO : OG ad [2, 3, 4] so so22 := hO.tr hOst20 (by decide)
      have hP : va_P (dC, dI) vwCl (xw A C nb st20 sl21 so22) _ := hP
      have hG : XG [1, 2, 3, 4, 5, 6, 8, 9, 12, 13, 14, 15] st st20 := hG.tr hGst20 (by decide)
      have hF : FX 4 st sl so st20 sl21 so22 := hF.tr hFst20 (by omega) (by omega)
      have hR : PT c nm st20 sl21 := hR.fr hFst20 (by omega)
      have hN9 : sl21 1 10 = lN (tkc B g (tkx B g m p)) := by rw [(hFst20 1 10 (by decide)).2.1]; exact hN9
      rcases hw with ⟨n23, rfl, hf24, hf25, hT, hf26, hf27⟩ | ⟨n28, n29, rfl, hf30, hf31, hf32, hf33⟩
      · have hp9 := hT.2.2.2.2.2.2
        have hk1 := tkd_lt (B := B) (g := g) (m := m) (p := (tkx B g m (tkx B g m (tkx B g m p))))
        have hk2 := tkx_le (B := B) (g := g) (m := m) (p := (tkx B g m (tkx B g m (tkx B g m p)))) hp9
        have hk3 := tka_le (B := B) (g := g) (m := m) (p := (tkx B g m (tkx B g m (tkx B g m p)))) hp9 hB.2.2.1
        have hk4 := tkv_ltc (p := (tkx B g m (tkx B g m (tkx B g m p)))) hB hp9
        have hk5 := tkw_lt (B := B) (g := g) (m := m) (p := (tkx B g m (tkx B g m (tkx B g m p))))
        refine lv_if_ne (tgt := 38) hx hb dX5_readPerson_33 (by decide) (fun _ => ?_) (fun cc => absurd cc (by decide))
        refine lv_aload_n hx hb dX5_readPerson_38 rfl (lv_at hl 1 rfl) ?_
        refine va_getN (host := "OffTheLead") (D := (dC, dI)) (ci := 9) (v := .int (st20 1 9)) (C := RX8) (T := TX8) (N := 15) hx hb hts ii_X5_readPerson_X8 hown hK hP 1 (xw_is (r := 1) (by omega) (xc_fix (r := 1) (by omega))) rfl 9 (by decide) (va_Nw.use rfl (nf_X5_101 hEv)) (fun _ hh => hh) rfl dX5_readPerson_39 ?_
        refine zz_top (v := (nI n23)) (by show st20 1 9 = _; rw [hf25]) ?_
        refine lv_istore_n (lv' := [(3, .int (nI n23)), (0, .ref (A 3)), (1, .ref (A 1)), (2, .ref (A (36 + 20 * 1)))]) hx hb dX5_readPerson_42 rfl hl (by decide) rfl (fun ls hl => ?_)
        refine lv_aload_n hx hb dX5_readPerson_43 rfl (lv_at hl 2 rfl) ?_
        refine va_calli (va_runV (As := []) (rest := []) ⟨hx, hb, hml, hown, hts⟩ (y_X8_takeHours l dC dI ad E hEE A C nb _ hN st20 sl21 so22 B g m (tkx B g m (tkx B g m (tkx B g m p))) hG.1 hO.1 (CBt.fr hB hF) hT) (cwV 0 hts gX5_readPerson_X8_takeHours rfl rfl rfl (by decide +kernel) ⟨Nat.le_of_ble_eq_true rfl, Nat.le_of_ble_eq_true rfl⟩) ⟨fun a U g mk q => ⟨q.1, xPre.blind hEE q.2⟩, va_recv hK hP (ci := 9) (q0 := 1) rfl (xw_is (r := 1) (by omega) (xc_fix (r := 1) (by omega))), fun U hU hW => ⟨rfl, xPre.of hEE hP hK hE hS hU hW⟩⟩ rfl rfl hl.1 rfl (lv_room (Nat.le_of_ble_eq_true rfl)) dX5_readPerson_44 ⟨Nat.le_of_ble_eq_true rfl, Nat.le_of_ble_eq_true rfl⟩) hS (fun q _ h => XA.le hS.1 q h) (XA.le hS.1) (fun r34 x t H locs ht hvm hw hB9 _ _ hS => ?_)
        have hP := xB.at ht hB9
        clear hB9 ht hvm
        obtain ⟨st35, sl36, so37⟩ := x
        obtain ⟨hGst35, hOst35, hFst35, hw⟩ := hw
        dsimp only at hGst35 hOst35 hFst35 hw
        have hO : OG ad [2, 3, 4] so so37 := hO.tr hOst35 (by decide)
        have hP : va_P (dC, dI) vwCl (xw A C nb st35 sl36 so37) _ := hP
        have hG : XG [1, 2, 3, 4, 5, 6, 8, 9, 12, 13, 14, 15] st st35 := hG.tr hGst35 (by decide)
        have hF : FX 4 st sl so st35 sl36 so37 := hF.tr hFst35 (by omega) (by omega)
        have hR : PT c nm st35 sl36 := hR.fr hFst35 (by omega)
        rcases hw with ⟨rfl, hf38, hf39, hf40, hf41, hT, hf42, hf43, hf44⟩ | ⟨n45, n46, rfl, hf47, hf48, hf49, hf50⟩
        · have hp9 := hT.2.2.2.2.2.2
          have hk1 := tkd_lt (B := B) (g := g) (m := m) (p := (tkx B g m (tkx B g m (tkx B g m (tkx B g m (tkx B g m p))))))
          have hk2 := tkx_le (B := B) (g := g) (m := m) (p := (tkx B g m (tkx B g m (tkx B g m (tkx B g m (tkx B g m p)))))) hp9
          have hk3 := tka_le (B := B) (g := g) (m := m) (p := (tkx B g m (tkx B g m (tkx B g m (tkx B g m (tkx B g m p)))))) hp9 hB.2.2.1
          have hk4 := tkv_ltc (p := (tkx B g m (tkx B g m (tkx B g m (tkx B g m (tkx B g m p)))))) hB hp9
          have hk5 := tkw_lt (B := B) (g := g) (m := m) (p := (tkx B g m (tkx B g m (tkx B g m (tkx B g m (tkx B g m p))))))
          have hN9 : sl36 1 10 = lN (tkc B g (tkx B g m p)) := hf43.trans hN9
          refine lv_if_eq (tgt := 60) hx hb dX5_readPerson_47 (by decide) (fun cc => absurd cc (by decide)) (fun _ => ?_)
          refine lv_aload_n hx hb dX5_readPerson_50 rfl (lv_at hl 2 rfl) ?_
          refine lv_iconst (v := 0) hx hb dX5_readPerson_51 (by decide) ?_
          refine lv_bipush (v := 30) hx hb dX5_readPerson_52 (by decide) ?_
          refine va_calli (va_runV (As := [.int 0, .int 30]) (rest := []) ⟨hx, hb, hml, hown, hts⟩ (y_X8_takeNumber l dC dI ad E hEE A C nb _ hN st35 sl36 so37 0 30 B g m (tkx B g m (tkx B g m (tkx B g m (tkx B g m (tkx B g m p))))) (by omega) (by omega) hG.1 hO.1 (CBt.fr hB hF) hT) (cwV 2 hts gX5_readPerson_X8_takeNumber rfl rfl rfl (by decide +kernel) ⟨Nat.le_of_ble_eq_true rfl, Nat.le_of_ble_eq_true rfl⟩) ⟨fun a U g mk q => ⟨q.1, xPre.blind hEE q.2⟩, va_recv hK hP (ci := 9) (q0 := 1) rfl (xw_is (r := 1) (by omega) (xc_fix (r := 1) (by omega))), fun U hU hW => ⟨rfl, xPre.of hEE hP hK hE hS hU hW⟩⟩ rfl rfl hl.1 rfl (lv_room (Nat.le_of_ble_eq_true rfl)) dX5_readPerson_54 ⟨Nat.le_of_ble_eq_true rfl, Nat.le_of_ble_eq_true rfl⟩) hS (fun q _ h => XA.le hS.1 q h) (XA.le hS.1) (fun r51 x t H locs ht hvm hw hB9 _ _ hS => ?_)
          have hP := xB.at ht hB9
          clear hB9 ht hvm
          obtain ⟨st52, sl53, so54⟩ := x
          obtain ⟨hGst52, hOst52, hFst52, hw⟩ := hw
          dsimp only at hGst52 hOst52 hFst52 hw
          have hO : OG ad [2, 3, 4] so so54 := hO.tr hOst52 (by decide)
          have hP : va_P (dC, dI) vwCl (xw A C nb st52 sl53 so54) _ := hP
          have hG : XG [1, 2, 3, 4, 5, 6, 8, 9, 12, 13, 14, 15] st st52 := hG.tr hGst52 (by decide)
          have hF : FX 4 st sl so st52 sl53 so54 := hF.tr hFst52 (by omega) (by omega)
          have hR : PT c nm st52 sl53 := hR.fr hFst52 (by omega)
          have hN9 : sl53 1 10 = lN (tkc B g (tkx B g m p)) := by rw [(hFst52 1 10 (by decide)).2.1]; exact hN9
          rcases hw with ⟨rfl, hf55, hf56, hf57, hT, hf58, hf59⟩ | ⟨n60, n61, rfl, hf62, hf63, hf64, hf65⟩
          · have hp9 := hT.2.2.2.2.2.2
            have hk1 := tkd_lt (B := B) (g := g) (m := m) (p := (tkx B g m (tkx B g m (tkx B g m (tkx B g m (tkx B g m (tkx B g m p)))))))
            have hk2 := tkx_le (B := B) (g := g) (m := m) (p := (tkx B g m (tkx B g m (tkx B g m (tkx B g m (tkx B g m (tkx B g m p))))))) hp9
            have hk3 := tka_le (B := B) (g := g) (m := m) (p := (tkx B g m (tkx B g m (tkx B g m (tkx B g m (tkx B g m (tkx B g m p))))))) hp9 hB.2.2.1
            have hk4 := tkv_ltc (p := (tkx B g m (tkx B g m (tkx B g m (tkx B g m (tkx B g m (tkx B g m p))))))) hB hp9
            have hk5 := tkw_lt (B := B) (g := g) (m := m) (p := (tkx B g m (tkx B g m (tkx B g m (tkx B g m (tkx B g m (tkx B g m p)))))))
            refine lv_if_ne (tgt := 62) hx hb dX5_readPerson_57 (by decide) (fun _ => ?_) (fun cc => absurd cc (by decide))
            refine lv_aload_n hx hb dX5_readPerson_62 rfl (lv_at hl 3 rfl) ?_
            refine lv_aload_n hx hb dX5_readPerson_63 rfl (lv_at hl 2 rfl) ?_
            refine va_getN (host := "OffTheLead") (D := (dC, dI)) (ci := 9) (v := .long (sl53 1 10)) (C := RX8) (T := TX8) (N := 15) hx hb hts ii_X5_readPerson_X8 hown hK hP 1 (xw_is (r := 1) (by omega) (xc_fix (r := 1) (by omega))) rfl 10 (by decide) (va_Nw.use rfl (nf_X5_83 hEv)) (fun _ hh => hh) rfl dX5_readPerson_64 ?_
            refine lv_topl (fun z66 ez66 => ?_)
            refine va_callr (va_runV (As := [.long z66]) (rest := []) ⟨hx, hb, hml, hown, hts⟩ (y_X4_addPerson l dC dI ad E hEE A C nb _ hN st52 sl53 so54 z66 B g m (tkx B g m (tkx B g m (tkx B g m (tkx B g m (tkx B g m (tkx B g m p)))))) c nm (tkc B g (tkx B g m p)) hG.1 hO.1 (CBt.fr hB hF) hT hR (by rw [ez66]; exact hN9) (hf10) (by omega)) (cwV 1 hts gX5_readPerson_X4_addPerson rfl rfl rfl (by decide +kernel) ⟨Nat.le_of_ble_eq_true rfl, Nat.le_of_ble_eq_true rfl⟩) ⟨fun a U g mk q => ⟨q.1, xPre.blind hEE q.2⟩, va_recv hK hP (ci := 5) (q0 := (36 + 20 * 1)) rfl (xw_is (r := (36 + 20 * 1)) (by omega) (xc_pk (i := 1) (o := 0) (by omega) (by omega))), fun U hU hW => ⟨rfl, xPre.of hEE hP hK hE hS hU hW⟩⟩ rfl rfl hl.1 rfl (lv_room (Nat.le_of_ble_eq_true rfl)) dX5_readPerson_67 ⟨Nat.le_of_ble_eq_true rfl, Nat.le_of_ble_eq_true rfl⟩) hS (fun q _ h => XA.le hS.1 q h) (XA.le hS.1) (fun x r67 t H locs ht hvm hw hB9 _ _ hS => ?_)
            obtain ⟨hw, hB9⟩ := hB9
            have hP := xB.at ht hB9
            clear hB9 ht hvm
            obtain ⟨st68, sl69, so70⟩ := x
            obtain ⟨hGst68, hOst68, hFst68, hw⟩ := hw
            dsimp only at hGst68 hOst68 hFst68 hw
            have hO : OG ad [2, 3, 4] so so70 := hO.tr hOst68 (by decide)
            have hP : va_P (dC, dI) vwCl (xw A C nb st68 sl69 so70) _ := hP
            have hG : XG [1, 2, 3, 4, 5, 6, 8, 9, 12, 13, 14, 15] st st68 := hG.tr hGst68 (by decide)
            have hF : FX 4 st sl so st68 sl69 so70 := hF.tr hFst68 (by omega) (by omega)
            obtain ⟨rfl, hR, hT, hf71⟩ := hw
            have hp9 := hT.2.2.2.2.2.2
            have hk1 := tkd_lt (B := B) (g := g) (m := m) (p := (tkx B g m (tkx B g m (tkx B g m (tkx B g m (tkx B g m (tkx B g m p)))))))
            have hk2 := tkx_le (B := B) (g := g) (m := m) (p := (tkx B g m (tkx B g m (tkx B g m (tkx B g m (tkx B g m (tkx B g m p))))))) hp9
            have hk3 := tka_le (B := B) (g := g) (m := m) (p := (tkx B g m (tkx B g m (tkx B g m (tkx B g m (tkx B g m (tkx B g m p))))))) hp9 hB.2.2.1
            have hk4 := tkv_ltc (p := (tkx B g m (tkx B g m (tkx B g m (tkx B g m (tkx B g m (tkx B g m p))))))) hB hp9
            have hk5 := tkw_lt (B := B) (g := g) (m := m) (p := (tkx B g m (tkx B g m (tkx B g m (tkx B g m (tkx B g m (tkx B g m p)))))))
            refine lv_astore (lv' := [(4, .ref (A (36 + 20 * 1 + (6 + c 1)))), (3, .int (nI n23)), (0, .ref (A 3)), (1, .ref (A 1)), (2, .ref (A (36 + 20 * 1)))]) hx hb dX5_readPerson_70 hl (by decide) rfl (fun ls hl => ?_)
            refine lv_aload hx hb dX5_readPerson_72 (lv_at hl 0 rfl) ?_
            refine lv_iload_n hx hb dX5_readPerson_74 rfl (lv_at hl 1 rfl) ?_
            refine va_putN (host := "OffTheLead") (D := (dC, dI)) (ci := 7) (v := .int (nI n23)) (ty := .int) (C := RX6) (T := TX6) (N := 9) hx hb hts ii_X5_readPerson_X6 tyX6 tyX6_ok nmX6 hown hK hP (xD hN _ _ _ _ _ _) hS (36 + 20 * 1 + (6 + c 1)) (xw_is (r := (36 + 20 * 1 + (6 + c 1))) (by omega) (xc_person (i := 1) (p := c 1) (by omega) (by omega))) rfl 1 (by decide) (va_Nw.use rfl (nf_X5_116 hEv)) (fun _ hh => hh) rfl (by decide +kernel) rfl rfl (Nat.le_of_ble_eq_true rfl) dX5_readPerson_75 (fun H locs hP _ hS => ?_)
            have hP : va_P (dC, dI) vwCl (xw A C nb (up2 st68 (36 + 20 * 1 + (6 + c 1)) 1 (nI n23)) sl69 so70) H := by rw [← xset (r := (36 + 20 * 1 + (6 + c 1))) (k := 1) (v := (nI n23)) (xc_person (i := 1) (p := c 1) (by omega) (by omega))]; exact hP
            obtain ⟨st72, est72⟩ : ∃ y, y = up2 st68 (36 + 20 * 1 + (6 + c 1)) 1 (nI n23) := ⟨_, rfl⟩
            have hG : XG [1, 2, 3, 4, 5, 6, 8, 9, 12, 13, 14, 15] st st72 := by rw [est72]; exact hG.up (xn (n := n23) (b := 5) ((xrg_pe (i := 1) (p := c 1) (by omega)).trans (by decide)) (by omega)) (xpn (c := 0) (xcl_pe (i := 1) (p := c 1) (k := 1) (by omega)) (by decide))
            rw [← est72] at hP
            have hF : FX 4 st sl so st72 sl69 so70 := by rw [est72]; exact hF.up (dc_pk (o := 6 + c 1) (by omega))
            have hT : TC B g m (tkx B g m (tkx B g m (tkx B g m (tkx B g m (tkx B g m (tkx B g m p)))))) ad st72 sl69 so70 := by rw [est72]; exact hT.up (by omega)
            have hR : PT (uN c 1 (c 1 + 1)) (uM nm 1 (c 1) (tkc B g (tkx B g m p))) st72 sl69 := by rw [est72]; exact hR.up (by omega)
            refine lv_aload hx hb dX5_readPerson_78 (lv_at hl 0 rfl) ?_
            refine lv_aload_n hx hb dX5_readPerson_80 rfl (lv_at hl 3 rfl) ?_
            refine va_getN (host := "OffTheLead") (D := (dC, dI)) (ci := 9) (v := .int (st72 1 11)) (C := RX8) (T := TX8) (N := 15) hx hb hts ii_X5_readPerson_X8 hown hK hP 1 (xw_is (r := 1) (by omega) (xc_fix (r := 1) (by omega))) rfl 11 (by decide) (va_Nw.use rfl (nf_X5_121 hEv)) (fun _ hh => hh) rfl dX5_readPerson_81 ?_
            obtain ⟨z73, ez73⟩ : ∃ y : Int32, st72 1 11 = y := ⟨_, rfl⟩
            refine zz_top (v := z73) (by exact ez73) ?_
            refine va_putN (host := "OffTheLead") (D := (dC, dI)) (ci := 7) (v := .int z73) (ty := .int) (C := RX6) (T := TX6) (N := 9) hx hb hts ii_X5_readPerson_X6 tyX6 tyX6_ok nmX6 hown hK hP (xD hN _ _ _ _ _ _) hS (36 + 20 * 1 + (6 + c 1)) (xw_is (r := (36 + 20 * 1 + (6 + c 1))) (by omega) (xc_person (i := 1) (p := c 1) (by omega) (by omega))) rfl 2 (by decide) (va_Nw.use rfl (nf_X5_124 hEv)) (fun _ hh => hh) rfl (by decide +kernel) rfl rfl (Nat.le_of_ble_eq_true rfl) dX5_readPerson_84 (fun H locs hP _ hS => ?_)
            have hP : va_P (dC, dI) vwCl (xw A C nb (up2 st72 (36 + 20 * 1 + (6 + c 1)) 2 z73) sl69 so70) H := by rw [← xset (r := (36 + 20 * 1 + (6 + c 1))) (k := 2) (v := z73) (xc_person (i := 1) (p := c 1) (by omega) (by omega))]; exact hP
            obtain ⟨st74, est74⟩ : ∃ y, y = up2 st72 (36 + 20 * 1 + (6 + c 1)) 2 z73 := ⟨_, rfl⟩
            have hG : XG [1, 2, 3, 4, 5, 6, 8, 9, 12, 13, 14, 15] st st74 := by rw [est74]; exact hG.up (xz (r := (36 + 20 * 1 + (6 + c 1))) (k := 2) ((xrg_pe (i := 1) (p := c 1) (by omega)).trans (by decide))) (xpn (c := 0) (xcl_pe (i := 1) (p := c 1) (k := 2) (by omega)) (by decide))
            rw [← est74] at hP
            have hF : FX 4 st sl so st74 sl69 so70 := by rw [est74]; exact hF.up (dc_pk (o := 6 + c 1) (by omega))
            have hT : TC B g m (tkx B g m (tkx B g m (tkx B g m (tkx B g m (tkx B g m (tkx B g m p)))))) ad st74 sl69 so70 := by rw [est74]; exact hT.up (by omega)
            have hR : PT (uN c 1 (c 1 + 1)) (uM nm 1 (c 1) (tkc B g (tkx B g m p))) st74 sl69 := by rw [est74]; exact hR.up (by omega)
            refine lv_aload hx hb dX5_readPerson_87 (lv_at hl 0 rfl) ?_
            refine lv_aload_n hx hb dX5_readPerson_89 rfl (lv_at hl 3 rfl) ?_
            refine va_getN (host := "OffTheLead") (D := (dC, dI)) (ci := 9) (v := .int (st74 1 12)) (C := RX8) (T := TX8) (N := 15) hx hb hts ii_X5_readPerson_X8 hown hK hP 1 (xw_is (r := 1) (by omega) (xc_fix (r := 1) (by omega))) rfl 12 (by decide) (va_Nw.use rfl (nf_X5_125 hEv)) (fun _ hh => hh) rfl dX5_readPerson_90 ?_
            obtain ⟨z75, ez75⟩ : ∃ y : Int32, st74 1 12 = y := ⟨_, rfl⟩
            refine zz_top (v := z75) (by exact ez75) ?_
            refine va_putN (host := "OffTheLead") (D := (dC, dI)) (ci := 7) (v := .int z75) (ty := .int) (C := RX6) (T := TX6) (N := 9) hx hb hts ii_X5_readPerson_X6 tyX6 tyX6_ok nmX6 hown hK hP (xD hN _ _ _ _ _ _) hS (36 + 20 * 1 + (6 + c 1)) (xw_is (r := (36 + 20 * 1 + (6 + c 1))) (by omega) (xc_person (i := 1) (p := c 1) (by omega) (by omega))) rfl 3 (by decide) (va_Nw.use rfl (nf_X5_128 hEv)) (fun _ hh => hh) rfl (by decide +kernel) rfl rfl (Nat.le_of_ble_eq_true rfl) dX5_readPerson_93 (fun H locs hP _ hS => ?_)
            have hP : va_P (dC, dI) vwCl (xw A C nb (up2 st74 (36 + 20 * 1 + (6 + c 1)) 3 z75) sl69 so70) H := by rw [← xset (r := (36 + 20 * 1 + (6 + c 1))) (k := 3) (v := z75) (xc_person (i := 1) (p := c 1) (by omega) (by omega))]; exact hP
            obtain ⟨st76, est76⟩ : ∃ y, y = up2 st74 (36 + 20 * 1 + (6 + c 1)) 3 z75 := ⟨_, rfl⟩
            have hG : XG [1, 2, 3, 4, 5, 6, 8, 9, 12, 13, 14, 15] st st76 := by rw [est76]; exact hG.up (xz (r := (36 + 20 * 1 + (6 + c 1))) (k := 3) ((xrg_pe (i := 1) (p := c 1) (by omega)).trans (by decide))) (xpn (c := 0) (xcl_pe (i := 1) (p := c 1) (k := 3) (by omega)) (by decide))
            rw [← est76] at hP
            have hF : FX 4 st sl so st76 sl69 so70 := by rw [est76]; exact hF.up (dc_pk (o := 6 + c 1) (by omega))
            have hT : TC B g m (tkx B g m (tkx B g m (tkx B g m (tkx B g m (tkx B g m (tkx B g m p)))))) ad st76 sl69 so70 := by rw [est76]; exact hT.up (by omega)
            have hR : PT (uN c 1 (c 1 + 1)) (uM nm 1 (c 1) (tkc B g (tkx B g m p))) st76 sl69 := by rw [est76]; exact hR.up (by omega)
            refine lv_aload hx hb dX5_readPerson_96 (lv_at hl 0 rfl) ?_
            refine lv_aload_n hx hb dX5_readPerson_98 rfl (lv_at hl 3 rfl) ?_
            refine va_getN (host := "OffTheLead") (D := (dC, dI)) (ci := 9) (v := .int (st76 1 9)) (C := RX8) (T := TX8) (N := 15) hx hb hts ii_X5_readPerson_X8 hown hK hP 1 (xw_is (r := 1) (by omega) (xc_fix (r := 1) (by omega))) rfl 9 (by decide) (va_Nw.use rfl (nf_X5_101 hEv)) (fun _ hh => hh) rfl dX5_readPerson_99 ?_
            obtain ⟨z77, ez77⟩ : ∃ y : Int32, st76 1 9 = y := ⟨_, rfl⟩
            refine zz_top (v := z77) (by exact ez77) ?_
            refine va_putN (host := "OffTheLead") (D := (dC, dI)) (ci := 7) (v := .int z77) (ty := .int) (C := RX6) (T := TX6) (N := 9) hx hb hts ii_X5_readPerson_X6 tyX6 tyX6_ok nmX6 hown hK hP (xD hN _ _ _ _ _ _) hS (36 + 20 * 1 + (6 + c 1)) (xw_is (r := (36 + 20 * 1 + (6 + c 1))) (by omega) (xc_person (i := 1) (p := c 1) (by omega) (by omega))) rfl 4 (by decide) (va_Nw.use rfl (nf_X5_129 hEv)) (fun _ hh => hh) rfl (by decide +kernel) rfl rfl (Nat.le_of_ble_eq_true rfl) dX5_readPerson_102 (fun H locs hP _ hS => ?_)
            have hP : va_P (dC, dI) vwCl (xw A C nb (up2 st76 (36 + 20 * 1 + (6 + c 1)) 4 z77) sl69 so70) H := by rw [← xset (r := (36 + 20 * 1 + (6 + c 1))) (k := 4) (v := z77) (xc_person (i := 1) (p := c 1) (by omega) (by omega))]; exact hP
            obtain ⟨st78, est78⟩ : ∃ y, y = up2 st76 (36 + 20 * 1 + (6 + c 1)) 4 z77 := ⟨_, rfl⟩
            have hG : XG [1, 2, 3, 4, 5, 6, 8, 9, 12, 13, 14, 15] st st78 := by rw [est78]; exact hG.up (xz (r := (36 + 20 * 1 + (6 + c 1))) (k := 4) ((xrg_pe (i := 1) (p := c 1) (by omega)).trans (by decide))) (xpn (c := 0) (xcl_pe (i := 1) (p := c 1) (k := 4) (by omega)) (by decide))
            rw [← est78] at hP
            have hF : FX 4 st sl so st78 sl69 so70 := by rw [est78]; exact hF.up (dc_pk (o := 6 + c 1) (by omega))
            have hT : TC B g m (tkx B g m (tkx B g m (tkx B g m (tkx B g m (tkx B g m (tkx B g m p)))))) ad st78 sl69 so70 := by rw [est78]; exact hT.up (by omega)
            have hR : PT (uN c 1 (c 1 + 1)) (uM nm 1 (c 1) (tkc B g (tkx B g m p))) st78 sl69 := by rw [est78]; exact hR.up (by omega)
            refine lv_aload_n hx hb dX5_readPerson_105 rfl (lv_at hl 3 rfl) ?_
            refine lv_bipush (v := 59) hx hb dX5_readPerson_106 (by decide) ?_
            refine va_calli (va_runV (As := [.int 59]) (rest := []) ⟨hx, hb, hml, hown, hts⟩ (y_X8_takeMark l dC dI ad E hEE A C nb _ hN st78 sl69 so70 B g m (tkx B g m (tkx B g m (tkx B g m (tkx B g m (tkx B g m (tkx B g m p)))))) hG.1 hO.1 (CBt.fr hB hF) hT) (cwV 1 hts gX5_readPerson_X8_takeMark rfl rfl rfl (by decide +kernel) ⟨Nat.le_of_ble_eq_true rfl, Nat.le_of_ble_eq_true rfl⟩) ⟨fun a U g mk q => ⟨q.1, xPre.blind hEE q.2⟩, va_recv hK hP (ci := 9) (q0 := 1) rfl (xw_is (r := 1) (by omega) (xc_fix (r := 1) (by omega))), fun U hU hW => ⟨rfl, xPre.of hEE hP hK hE hS hU hW⟩⟩ rfl rfl hl.1 rfl (lv_room (Nat.le_of_ble_eq_true rfl)) dX5_readPerson_108 ⟨Nat.le_of_ble_eq_true rfl, Nat.le_of_ble_eq_true rfl⟩) hS (fun q _ h => XA.le hS.1 q h) (XA.le hS.1) (fun r79 x t H locs ht hvm hw hB9 _ _ hS => ?_)
            have hP := xB.at ht hB9
            clear hB9 ht hvm
            obtain ⟨st80, sl81, so82⟩ := x
            obtain ⟨hGst80, hOst80, hFst80, hw⟩ := hw
            dsimp only at hGst80 hOst80 hFst80 hw
            have hO : OG ad [2, 3, 4] so so82 := hO.tr hOst80 (by decide)
            have hP : va_P (dC, dI) vwCl (xw A C nb st80 sl81 so82) _ := hP
            have hG : XG [1, 2, 3, 4, 5, 6, 8, 9, 12, 13, 14, 15] st st80 := hG.tr hGst80 (by decide)
            have hF : FX 4 st sl so st80 sl81 so82 := hF.tr hFst80 (by omega) (by omega)
            have hR : PT (uN c 1 (c 1 + 1)) (uM nm 1 (c 1) (tkc B g (tkx B g m p))) st80 sl81 := hR.fr hFst80 (by omega)
            rcases hw with ⟨rfl, hT, hf83, hf84⟩ | ⟨n85, n86, rfl, hf87, hf88, hf89, hf90⟩
            · have hp9 := hT.2.2.2.2.2.2
              have hk1 := tkd_lt (B := B) (g := g) (m := m) (p := (tkx B g m (tkx B g m (tkx B g m (tkx B g m (tkx B g m (tkx B g m (tkx B g m p))))))))
              have hk2 := tkx_le (B := B) (g := g) (m := m) (p := (tkx B g m (tkx B g m (tkx B g m (tkx B g m (tkx B g m (tkx B g m (tkx B g m p)))))))) hp9
              have hk3 := tka_le (B := B) (g := g) (m := m) (p := (tkx B g m (tkx B g m (tkx B g m (tkx B g m (tkx B g m (tkx B g m (tkx B g m p)))))))) hp9 hB.2.2.1
              have hk4 := tkv_ltc (p := (tkx B g m (tkx B g m (tkx B g m (tkx B g m (tkx B g m (tkx B g m (tkx B g m p)))))))) hB hp9
              have hk5 := tkw_lt (B := B) (g := g) (m := m) (p := (tkx B g m (tkx B g m (tkx B g m (tkx B g m (tkx B g m (tkx B g m (tkx B g m p))))))))
              exact W.zret (v := 1) hx hb hr rfl (fun t ht hW => ⟨⟨1, (st80, sl81, so82), rfl, ⟨hG, hO, hF, Or.inl (⟨(uN c 1 (c 1 + 1)), (uM nm 1 (c 1) (tkc B g (tkx B g m p))), (tkx B g m (tkx B g m (tkx B g m (tkx B g m (tkx B g m (tkx B g m (tkx B g m p))))))), rfl, hR, hT, by show st80 1 13 = st 1 13; rw [hf83, est78, up2_ne (r := (36 + 20 * 1 + (6 + c 1))) (k := 4) (a := 1) (j := 13) _ _ (by omega), est76, up2_ne (r := (36 + 20 * 1 + (6 + c 1))) (k := 3) (a := 1) (j := 13) _ _ (by omega), est74, up2_ne (r := (36 + 20 * 1 + (6 + c 1))) (k := 2) (a := 1) (j := 13) _ _ (by omega), est72, up2_ne (r := (36 + 20 * 1 + (6 + c 1))) (k := 1) (a := 1) (j := 13) _ _ (by omega), hf71, hf58, hf42, hf26, hf11, (hFst2 1 13 (by decide)).1], uN_sum (a := 1) (by decide) rfl, by unfold lPerson; rw [if_neg (by omega), hf12, hf27, hf44, hf59, hf84]⟩)⟩, xB.of ht hP⟩, hS.F ht⟩) hS.2.2 dX5_readPerson_111
            · exact W.zret (v := 0) hx hb hr rfl (fun t ht hW => ⟨⟨0, (st80, sl81, so82), rfl, ⟨hG, hO, hF, Or.inr (⟨n85, n86, rfl, by show st80 1 13 = _; rw [hf87], by show st80 1 14 = _; rw [hf88], by omega, by unfold lPerson; rw [if_neg (by omega), hf12, hf27, hf44, hf59, hf90]⟩)⟩, xB.of ht hP⟩, hS.F ht⟩) hS.2.2 dX5_readPerson_111
          · refine lv_if_ne (tgt := 62) hx hb dX5_readPerson_57 (by decide) (fun cc => absurd (by decide) cc) (fun _ => ?_)
            refine lv_iconst (v := 0) hx hb dX5_readPerson_60 (by decide) ?_
            exact W.zret (v := 0) hx hb hr rfl (fun t ht hW => ⟨⟨0, (st52, sl53, so54), rfl, ⟨hG, hO, hF, Or.inr (⟨n60, n61, rfl, by show st52 1 13 = _; rw [hf62], by show st52 1 14 = _; rw [hf63], by omega, by unfold lPerson; rw [if_neg (by omega), hf12, hf27, hf44, hf65]⟩)⟩, xB.of ht hP⟩, hS.F ht⟩) hS.2.2 dX5_readPerson_61
        · refine lv_if_eq (tgt := 60) hx hb dX5_readPerson_47 (by decide) (fun _ => ?_) (fun cc => absurd (by decide) cc)
          refine lv_iconst (v := 0) hx hb dX5_readPerson_60 (by decide) ?_
          exact W.zret (v := 0) hx hb hr rfl (fun t ht hW => ⟨⟨0, (st35, sl36, so37), rfl, ⟨hG, hO, hF, Or.inr (⟨n45, n46, rfl, by show st35 1 13 = _; rw [hf47], by show st35 1 14 = _; rw [hf48], by omega, by unfold lPerson; rw [if_neg (by omega), hf12, hf27, hf50]⟩)⟩, xB.of ht hP⟩, hS.F ht⟩) hS.2.2 dX5_readPerson_61
      · refine lv_if_ne (tgt := 38) hx hb dX5_readPerson_33 (by decide) (fun cc => absurd (by decide) cc) (fun _ => ?_)
        refine lv_iconst (v := 0) hx hb dX5_readPerson_36 (by decide) ?_
        exact W.zret (v := 0) hx hb hr rfl (fun t ht hW => ⟨⟨0, (st20, sl21, so22), rfl, ⟨hG, hO, hF, Or.inr (⟨n28, n29, rfl, by show st20 1 13 = _; rw [hf30], by show st20 1 14 = _; rw [hf31], by omega, by unfold lPerson; rw [if_neg (by omega), hf12, hf33]⟩)⟩, xB.of ht hP⟩, hS.F ht⟩) hS.2.2 dX5_readPerson_37
    · refine lv_if_eq (tgt := 36) hx hb dX5_readPerson_24 (by decide) (fun _ => ?_) (fun cc => absurd (by decide) cc)
      refine lv_iconst (v := 0) hx hb dX5_readPerson_36 (by decide) ?_
      exact W.zret (v := 0) hx hb hr rfl (fun t ht hW => ⟨⟨0, (st6, sl7, so8), rfl, ⟨hG, hO, hF, Or.inr (⟨n13, n14, rfl, by show st6 1 13 = _; rw [hf15], by show st6 1 14 = _; rw [hf16], by omega, by unfold lPerson; rw [if_neg (by omega), hf18]⟩)⟩, xB.of ht hP⟩, hS.F ht⟩) hS.2.2 dX5_readPerson_37
  · have c1 : ¬ (c 1) < 8 := fun hh => c1 ((nI_ltI (a := (c 1)) (b := 8) (by omega) (by omega)).mpr hh)
    refine lv_aload_n hx hb dX5_readPerson_9 rfl (lv_at hl 1 rfl) ?_
    refine lv_iconst (v := 4) hx hb dX5_readPerson_10 (by decide) ?_
    refine va_calli (va_runV (As := [.int 4]) (rest := []) ⟨hx, hb, hml, hown, hts⟩ (y_X8_refuse l dC dI ad E hEE A C nb _ hN st sl so 4 B g m p (by omega) hG.1 hO.1 (CBt.fr hB hF) hT) (cwV 1 hts gX5_readPerson_X8_refuse rfl rfl rfl (by decide +kernel) ⟨Nat.le_of_ble_eq_true rfl, Nat.le_of_ble_eq_true rfl⟩) ⟨fun a U g mk q => ⟨q.1, xPre.blind hEE q.2⟩, va_recv hK hP (ci := 9) (q0 := 1) rfl (xw_is (r := 1) (by omega) (xc_fix (r := 1) (by omega))), fun U hU hW => ⟨rfl, xPre.of hEE hP hK hE hS hU hW⟩⟩ rfl rfl hl.1 rfl (lv_room (Nat.le_of_ble_eq_true rfl)) dX5_readPerson_11 ⟨Nat.le_of_ble_eq_true rfl, Nat.le_of_ble_eq_true rfl⟩) hS (fun q _ h => XA.le hS.1 q h) (XA.le hS.1) (fun r91 x t H locs ht hvm hw hB9 _ _ hS => ?_)
    have hP := xB.at ht hB9
    clear hB9 ht hvm
    obtain ⟨st92, sl93, so94⟩ := x
    obtain ⟨hGst92, hOst92, hFst92, hw⟩ := hw
    dsimp only at hGst92 hOst92 hFst92 hw
    have hO : OG ad [2, 3, 4] so so94 := hO.tr hOst92 (by decide)
    have hP : va_P (dC, dI) vwCl (xw A C nb st92 sl93 so94) _ := hP
    have hG : XG [1, 2, 3, 4, 5, 6, 8, 9, 12, 13, 14, 15] st st92 := hG.tr hGst92 (by decide)
    have hF : FX 4 st sl so st92 sl93 so94 := hF.tr hFst92 (by omega) (by omega)
    have hR : PT c nm st92 sl93 := hR.fr hFst92 (by omega)
    obtain ⟨rfl, hf95, hf96, hT⟩ := hw
    have hp9 := hT.2.2.2.2.2.2
    have hk1 := tkd_lt (B := B) (g := g) (m := m) (p := p)
    have hk2 := tkx_le (B := B) (g := g) (m := m) (p := p) hp9
    have hk3 := tka_le (B := B) (g := g) (m := m) (p := p) hp9 hB.2.2.1
    have hk4 := tkv_ltc (p := p) hB hp9
    have hk5 := tkw_lt (B := B) (g := g) (m := m) (p := p)
    exact W.zret (v := 0) hx hb hr rfl (fun t ht hW => ⟨⟨0, (st92, sl93, so94), rfl, ⟨hG, hO, hF, Or.inr (⟨4, (tka B g m p), rfl, by show st92 1 13 = _; rw [hf95], by show st92 1 14 = _; rw [hf96], by omega, by unfold lPerson; rw [if_pos (by omega)]⟩)⟩, xB.of ht hP⟩, hS.F ht⟩) hS.2.2 dX5_readPerson_14
