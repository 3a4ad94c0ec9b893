set_option maxHeartbeats 4000000 in
set_option maxRecDepth 100000 in
theorem y_readOne_6 (l : Launch) (dC : Nat → ClassId) (dI : Nat → Nat → Nat) (ad : Nat → Nat) (E : EP) (hEE : EC ad E) (A : Nat → Nat) (C : Nat → ClassId) (nb sz : Nat) (hN : XN A) (st : Nat → Nat → Int32) (sl : Nat → Nat → Int64) (so : Nat → XR) (B : Nat → Nat) (g m : Nat) (p : Nat) (c : Nat → Nat) (nm : Nat → Nat → Nat) (go : Nat) (hI : XI st) (hOI : OI ad so) (hB : CBt B g m st) (hT : TC B g m p ad st sl so) (hR : CN c nm st sl 0) (h4 : st (20 + 4 * 1) 4 = nI go) (hgo : go ≤ 20) : Met l yX7_readOne wsX7_readOne ({ frames := 12, cells := 0, slots := 0, locals := 281 }) (va_Pc [.ref (A (20 + 4 * 1)), .ref (A 1), .ref (A (36 + 20 * 0)), .int 6] (xPre E dC dI A C nb sz st sl so)) (va_Qi (fun (r : Int32) (x : XT) => XG [1, 2, 3, 4, 5, 6, 7, 12, 13, 14, 15] st x.1 ∧ OG ad [2, 4] so x.2.2 ∧ FX 5 st sl so x.1 x.2.1 x.2.2 ∧ ((∃ q : Nat, ∃ o1 : Nat, r = 1 ∧ TC B g m q ad x.1 x.2.1 x.2.2 ∧ x.1 1 13 = st 1 13 ∧ x.1 (20 + 4 * 1) 4 = nI o1 ∧ go + 1 ≤ o1 ∧ o1 ≤ 20 ∧ sOne B g m c nm 3 p go = (0, q, o1)) ∨ (∃ f : Nat, ∃ a : Nat, r = 0 ∧ x.1 1 13 = nI f ∧ x.1 1 14 = nI a ∧ (1 ≤ f ∧ f < 9) ∧ sOne B g m c nm 3 p go = sf f a))) (xB dC dI A C nb) (XA A sz)) 0 0 (XA A sz) := by
  refine Met.ofW (cc := cX7_readOne) (maxL := 7) (ret := (some .boolean)) (by decide) rfl ?_
  intro p9 e s m9 args below meth c9 s₁ B9 hml hv
  obtain ⟨rfl, hsz, hP, hK, hE⟩ := hv
  have hx := B9.exec
  have hb := B9.bytes
  have hr := B9.returns
  have hts := atoms_spec (ws := wsX7_readOne) B9.pre
  have hown : s.vm.findClass RX7 = some m9.cls := findClass_of_methodNamed B9.named
  subst hsz
  have hEv := hEE.1 _ _ _ hE
  have hS : va_S (XA A s.heap.size) s.heap s.heap [] := va_S.rf
  have hG : XG [1, 2, 3, 4, 5, 6, 7, 12, 13, 14, 15] st st := XG.rf hI
  have hO : OG ad [2, 4] so so := OG.rf hOI
  have hl := lv_entry ([.ref (A (20 + 4 * 1)), .ref (A 1), .ref (A (36 + 20 * 0)), .int 6]) (n := 7) (Nat.le_of_ble_eq_true rfl)
  rw [lg_entry_eq]
  generalize (lg_sl ([.ref (A (20 + 4 * 1)), .ref (A 1), .ref (A (36 + 20 * 0)), .int 6]) ++ List.replicate (7 - (lg_sl ([.ref (A (20 + 4 * 1)), .ref (A 1), .ref (A (36 + 20 * 0)), .int 6])).length) Slot.unset).toArray = ls at hl ⊢
  have hl : lv_has ls 7 [(0, .ref (A (20 + 4 * 1))), (1, .ref (A 1)), (2, .ref (A (36 + 20 * 0))), (3, .int 6)] := hl
  have hB1 := hB.2.2.1
  have hB2 := hB.2.2.2.1
  have hF : FX 5 st sl so st sl so := FX.rf
  have hp9 := hT.2.2.2.2.2.2
  have hk1 := tkd_lt (B := B) (g := g) (m := m) (p := p)
  have hk2 := tkx_le (B := B) (g := g) (m := m) (p := p) hp9
  have hk3 := tka_le (B := B) (g := g) (m := m) (p := p) hp9 hB.2.2.1
  have hk4 := tkv_ltc (p := p) hB hp9
  have hk5 := tkw_lt (B := B) (g := g) (m := m) (p := p)
  have hR9 := hR.2.1
  refine lv_aload_n hx hb dX7_readOne_0 rfl (lv_at hl 1 rfl) ?_
  refine va_getN (host := "OffTheLead") (D := (dC, dI)) (ci := 9) (v := va_rf (so 1 7)) (C := RX8) (T := TX8) (N := 15) hx hb hts ii_X7_readOne_X8 hown hK hP 1 (xw_is (r := 1) (by omega) (xc_fix (r := 1) (by omega))) rfl 7 (by decide) (va_Nw.use rfl (nf_X7_35 hEv)) (fun _ hh => hh) rfl dX7_readOne_1 ?_
  refine zz_topq (r := some (ad (tkw B g m p))) (by rw [hT.2.2.2.2.2.1]) ?_
  refine lv_astore (lv' := [(4, .ref (ad (tkw B g m p))), (0, .ref (A (20 + 4 * 1))), (1, .ref (A 1)), (2, .ref (A (36 + 20 * 0))), (3, .int 6)]) hx hb dX7_readOne_4 hl (by decide) rfl (fun ls hl => ?_)
  refine lv_aload_n hx hb dX7_readOne_6 rfl (lv_at hl 2 rfl) ?_
  refine lv_bipush (v := 40) hx hb dX7_readOne_7 (by decide) ?_
  refine va_calli (va_runV (As := [.int 40]) (rest := []) ⟨hx, hb, hml, hown, hts⟩ (y_looksAtMark40 l dC dI ad E hEE A C nb _ hN st sl so B g m p hG.1 (CBt.fr hB hF) hT) (cwV 1 hts gX7_readOne_X8_looksAtMark rfl rfl rfl (by decide +kernel) ⟨Nat.le_of_ble_eq_true rfl, Nat.le_of_ble_eq_true rfl⟩) ⟨fun a U g mk q => ⟨q.1, xPre.blind hEE q.2⟩, va_recv hK hP (ci := 9) (q0 := 1) rfl (xw_is (r := 1) (by omega) (xc_fix (r := 1) (by omega))), fun U hU hW => ⟨rfl, xPre.of hEE hP hK hE hS hU hW⟩⟩ rfl rfl hl.1 rfl (lv_room (Nat.le_of_ble_eq_true rfl)) dX7_readOne_9 ⟨Nat.le_of_ble_eq_true rfl, Nat.le_of_ble_eq_true rfl⟩) hS (fun q _ h => XA.le hS.1 q h) (XA.le hS.1) (fun r1 x t H locs ht hvm hw hB9 _ _ hS => ?_)
  have hP := xB.at ht hB9
  clear hB9 ht hvm
  obtain ⟨rfl, hw⟩ := hw
  have hP : va_P (dC, dI) vwCl (xw A C nb st sl so) _ := hP
  rcases hw with ⟨rfl, hf2, hf3⟩ | ⟨rfl, hf4⟩
  · refine lv_istore (lv' := [(5, .int 1), (4, .ref (ad (tkw B g m p))), (0, .ref (A (20 + 4 * 1))), (1, .ref (A 1)), (2, .ref (A (36 + 20 * 0))), (3, .int 6)]) hx hb dX7_readOne_12 hl (by decide) rfl (fun ls hl => ?_)
    refine lv_iload hx hb dX7_readOne_14 (lv_at hl 0 rfl) ?_
    refine lv_if_ne (tgt := 33) hx hb dX7_readOne_16 (by decide) (fun _ => ?_) (fun cc => absurd cc (by decide))
    refine lv_aload_n hx hb dX7_readOne_33 rfl (lv_at hl 2 rfl) ?_
    refine va_get (D := (dC, dI)) (ci := 8) (v := .int (st (20 + 4 * 1) 4)) (C := RX7) (T := TX7) (N := 5) hx hb hts ii_X7_readOne_X7 hown hK hP (20 + 4 * 1) (xw_is (r := (20 + 4 * 1)) (by omega) (xc_sn (q := 1) (o := 0) (by omega) (by omega))) rfl 4 (by decide) (hts _ mm_X7_readOne_1) (fun _ hh => hh) rfl dX7_readOne_34 ?_
    refine zz_top (v := (nI go)) (by show st (20 + 4 * 1) 4 = _; rw [h4]) ?_
    refine lv_bipush (v := 20) hx hb dX7_readOne_37 (by decide) ?_
    refine lv_icmp_ge (tgt := 48) hx hb dX7_readOne_39 (by decide) (fun c2 => ?_) (fun c2 => ?_)
    · have c2 : 20 ≤ go := (nI_leI (a := 20) (b := go) (by omega) (by omega)).mp c2
      refine lv_aload_n hx hb dX7_readOne_48 rfl (lv_at hl 3 rfl) ?_
      refine lv_iconst (v := 4) hx hb dX7_readOne_49 (by decide) ?_
      refine va_calli (va_runV (As := [.int 4]) (rest := []) ⟨hx, hb, hml, hown, hts⟩ (y_X8_refuse l dC dI ad E hEE A C nb _ hN st sl so 4 B g m p (by omega) hG.1 hO.1 (CBt.fr hB hF) hT) (cwV 1 hts gX7_readOne_X8_refuse rfl rfl rfl (by decide +kernel) ⟨Nat.le_of_ble_eq_true rfl, Nat.le_of_ble_eq_true rfl⟩) ⟨fun a U g mk q => ⟨q.1, xPre.blind hEE q.2⟩, va_recv hK hP (ci := 9) (q0 := 1) rfl (xw_is (r := 1) (by omega) (xc_fix (r := 1) (by omega))), fun U hU hW => ⟨rfl, xPre.of hEE hP hK hE hS hU hW⟩⟩ rfl rfl hl.1 rfl (lv_room (Nat.le_of_ble_eq_true rfl)) dX7_readOne_50 ⟨Nat.le_of_ble_eq_true rfl, Nat.le_of_ble_eq_true rfl⟩) hS (fun q _ h => XA.le hS.1 q h) (XA.le hS.1) (fun r5 x t H locs ht hvm hw hB9 _ _ hS => ?_)
      have hP := xB.at ht hB9
      clear hB9 ht hvm
      obtain ⟨st6, sl7, so8⟩ := x
      obtain ⟨hGst6, hOst6, hFst6, hw⟩ := hw
      dsimp only at hGst6 hOst6 hFst6 hw
      have hO : OG ad [2, 4] so so8 := hO.tr hOst6 (by decide)
      have hP : va_P (dC, dI) vwCl (xw A C nb st6 sl7 so8) _ := hP
      have hG : XG [1, 2, 3, 4, 5, 6, 7, 12, 13, 14, 15] st st6 := hG.tr hGst6 (by decide)
      have hF : FX 5 st sl so st6 sl7 so8 := hF.tr hFst6 (by omega) (by omega)
      have hR : CN c nm st6 sl7 0 := hR.fr0 hFst6
      obtain ⟨rfl, hf9, hf10, hT⟩ := hw
      have hp9 := hT.2.2.2.2.2.2
      have hk1 := tkd_lt (B := B) (g := g) (m := m) (p := p)
      have hk2 := tkx_le (B := B) (g := g) (m := m) (p := p) hp9
      have hk3 := tka_le (B := B) (g := g) (m := m) (p := p) hp9 hB.2.2.1
      have hk4 := tkv_ltc (p := p) hB hp9
      have hk5 := tkw_lt (B := B) (g := g) (m := m) (p := p)
      exact W.zret (v := 0) hx hb hr rfl (fun t ht hW => ⟨⟨0, (st6, sl7, so8), rfl, ⟨hG, hO, hF, Or.inr (⟨4, (tka B g m p), rfl, by show st6 1 13 = _; rw [hf9], by show st6 1 14 = _; rw [hf10], by omega, sO_4 (Or.inl ⟨hf2, hf3⟩) (Or.inr (by omega))⟩)⟩, xB.of ht hP⟩, hS.F ht⟩) hS.2.2 dX7_readOne_53
    · have c2 : ¬ 20 ≤ go := fun hh => c2 ((nI_leI (a := 20) (b := go) (by omega) (by omega)).mpr hh)
      refine lv_iload_n hx hb dX7_readOne_42 rfl (lv_at hl 5 rfl) ?_
      refine lv_bipush (v := 8) hx hb dX7_readOne_43 (by decide) ?_
      refine lv_icmp_le (tgt := 54) hx hb dX7_readOne_45 (by decide) (fun _ => ?_) (fun cc => absurd (by decide) cc)
      refine lv_aload_n hx hb dX7_readOne_54 rfl (lv_at hl 2 rfl) ?_
      refine lv_dup hx hb dX7_readOne_55 rfl ?_
      refine va_get (D := (dC, dI)) (ci := 8) (v := .int (st (20 + 4 * 1) 4)) (C := RX7) (T := TX7) (N := 5) hx hb hts ii_X7_readOne_X7 hown hK hP (20 + 4 * 1) (xw_is (r := (20 + 4 * 1)) (by omega) (xc_sn (q := 1) (o := 0) (by omega) (by omega))) rfl 4 (by decide) (hts _ mm_X7_readOne_1) (fun _ hh => hh) rfl dX7_readOne_56 ?_
      refine zz_top (v := (nI go)) (by show st (20 + 4 * 1) 4 = _; rw [h4]) ?_
      refine lv_iconst (v := 1) hx hb dX7_readOne_59 (by decide) ?_
      refine lv_iadd hx hb dX7_readOne_60 ?_
      refine zz_top (v := nI (go + 1)) (nI_add go 1) ?_
      refine va_put (D := (dC, dI)) (ci := 8) (v := .int (nI (go + 1))) (ty := .int) (C := RX7) (T := TX7) (N := 5) hx hb hts ii_X7_readOne_X7 tyX7 tyX7_ok nmX7 hown hK hP (xD hN _ _ _ _ _ _) hS (20 + 4 * 1) (xw_is (r := (20 + 4 * 1)) (by omega) (xc_sn (q := 1) (o := 0) (by omega) (by omega))) rfl 4 (by decide) (hts _ mm_X7_readOne_1) (fun _ hh => hh) rfl (by decide +kernel) rfl rfl (Nat.le_of_ble_eq_true rfl) dX7_readOne_61 (fun H locs hP _ hS => ?_)
      have hP : va_P (dC, dI) vwCl (xw A C nb (up2 st (20 + 4 * 1) 4 (nI (go + 1))) sl so) H := by rw [← xset (r := (20 + 4 * 1)) (k := 4) (v := (nI (go + 1))) (xc_sn (q := 1) (o := 0) (by omega) (by omega))]; exact hP
      obtain ⟨st11, est11⟩ : ∃ y, y = up2 st (20 + 4 * 1) 4 (nI (go + 1)) := ⟨_, rfl⟩
      have hG : XG [1, 2, 3, 4, 5, 6, 7, 12, 13, 14, 15] st st11 := by rw [est11]; exact hG.up (xz (r := (20 + 4 * 1)) (k := 4) ((xrg_sn (q := 1) (o := 0) (by omega) (by omega)).trans (by first | rfl | decide))) (xpn (c := 0) ((xcl_sn (q := 1) (o := 0) (k := 4) (by omega) (by omega)).trans (by first | rfl | decide)) (by decide))
      rw [← est11] at hP
      have hF : FX 5 st sl so st11 sl so := by rw [est11]; exact hF.up (dc_sn (o := 0) (by omega))
      have hT : TC B g m p ad st11 sl so := by rw [est11]; exact hT.up (by omega)
      have hR : CN c nm st11 sl 0 := by rw [est11]; exact hR.up (by omega)
      refine lv_aload_n hx hb dX7_readOne_64 rfl (lv_at hl 3 rfl) ?_
      refine va_callv (va_runV (As := []) (rest := []) ⟨hx, hb, hml, hown, hts⟩ (y_X8_step l dC dI ad E hEE A C nb _ hN st11 sl so B g m (tkx B g m p) hG.1 hO.1 (CBt.fr hB hF) hT.1 hk2.2) (cwV 0 hts gX7_readOne_X8_step rfl rfl rfl (by decide +kernel) ⟨Nat.le_of_ble_eq_true rfl, Nat.le_of_ble_eq_true rfl⟩) ⟨fun a U g mk q => ⟨q.1, xPre.blind hEE q.2⟩, va_recv hK hP (ci := 9) (q0 := 1) rfl (xw_is (r := 1) (by omega) (xc_fix (r := 1) (by omega))), fun U hU hW => ⟨rfl, xPre.of hEE hP hK hE hS hU hW⟩⟩ rfl rfl hl.1 rfl (lv_room (Nat.le_of_ble_eq_true rfl)) dX7_readOne_65 ⟨Nat.le_of_ble_eq_true rfl, Nat.le_of_ble_eq_true rfl⟩) hS (fun q _ h => XA.le hS.1 q h) (XA.le hS.1) (fun x t H locs ht hvm hw hB9 _ _ hS => ?_)
      have hP := xB.at ht hB9
      clear hB9 ht hvm
      obtain ⟨st13, sl14, so15⟩ := x
      obtain ⟨hGst13, hOst13, hFst13, hw⟩ := hw
      dsimp only at hGst13 hOst13 hFst13 hw
      have hO : OG ad [2, 4] so so15 := hO.tr hOst13 (by decide)
      have hP : va_P (dC, dI) vwCl (xw A C nb st13 sl14 so15) _ := hP
      have hG : XG [1, 2, 3, 4, 5, 6, 7, 12, 13, 14, 15] st st13 := hG.tr hGst13 (by decide)
      have hF : FX 5 st sl so st13 sl14 so15 := hF.tr hFst13 (by omega) (by omega)
      have hR : CN c nm st13 sl14 0 := hR.fr0 hFst13
      have hT := hw
      have hp9 := hT.2.2.2.2.2.2
      have hk1 := tkd_lt (B := B) (g := g) (m := m) (p := (tkx B g m p))
      have hk2 := tkx_le (B := B) (g := g) (m := m) (p := (tkx B g m p)) hp9
      have hk3 := tka_le (B := B) (g := g) (m := m) (p := (tkx B g m p)) hp9 hB.2.2.1
      have hk4 := tkv_ltc (p := (tkx B g m p)) hB hp9
      have hk5 := tkw_lt (B := B) (g := g) (m := m) (p := (tkx B g m p))
      refine lv_iload hx hb dX7_readOne_68 (lv_at hl 0 rfl) ?_
      refine lv_if_eq (tgt := 100) hx hb dX7_readOne_70 (by decide) (fun cc => absurd cc (by decide)) (fun _ => ?_)
      refine lv_aload_n hx hb dX7_readOne_73 rfl (lv_at hl 2 rfl) ?_
      refine lv_aload_n hx hb dX7_readOne_74 rfl (lv_at hl 3 rfl) ?_
      refine lv_aload_n hx hb dX7_readOne_75 rfl (lv_at hl 4 rfl) ?_
      refine lv_iload_n hx hb dX7_readOne_76 rfl (lv_at hl 5 rfl) ?_
      refine lv_iconst (v := 1) hx hb dX7_readOne_77 (by decide) ?_
      refine lv_iadd hx hb dX7_readOne_78 ?_
      refine zz_top (v := 7) (by decide) ?_
      refine va_calli (va_runV (As := [.ref (A 1), .ref (A (36 + 20 * 0)), .int 7]) (rest := []) ⟨hx, hb, hml, hown, hts⟩ (y_readCond_7 l dC dI ad E hEE A C nb _ hN st13 sl14 so15 B g m (tkx B g m p) c nm (go + 1) hG.1 hO.1 (CBt.fr hB hF) hT hR (by rw [(hFst13 (20 + 4 * 1) 4 (by decide)).1, est11, up2_same]) (by omega)) (cwV 3 hts gX7_readOne_X7_readCond rfl rfl rfl (by decide +kernel) ⟨Nat.le_of_ble_eq_true rfl, Nat.le_of_ble_eq_true rfl⟩) ⟨fun a U g mk q => ⟨q.1, xPre.blind hEE q.2⟩, va_recv hK hP (ci := 8) (q0 := (20 + 4 * 1)) rfl (xw_is (r := (20 + 4 * 1)) (by omega) (xc_sn (q := 1) (o := 0) (by omega) (by omega))), fun U hU hW => ⟨rfl, xPre.of hEE hP hK hE hS hU hW⟩⟩ rfl rfl hl.1 rfl (lv_room (Nat.le_of_ble_eq_true rfl)) dX7_readOne_79 ⟨Nat.le_of_ble_eq_true rfl, Nat.le_of_ble_eq_true rfl⟩) hS (fun q _ h => XA.le hS.1 q h) (XA.le hS.1) (fun r16 x t H locs ht hvm hw hB9 _ _ hS => ?_)
      have hP := xB.at ht hB9
      clear hB9 ht hvm
      obtain ⟨st17, sl18, so19⟩ := x
      obtain ⟨hGst17, hOst17, hFst17, hw⟩ := hw
      dsimp only at hGst17 hOst17 hFst17 hw
      have hO : OG ad [2, 4] so so19 := hO.tr hOst17 (by decide)
      have hP : va_P (dC, dI) vwCl (xw A C nb st17 sl18 so19) _ := hP
      have hG : XG [1, 2, 3, 4, 5, 6, 7, 12, 13, 14, 15] st st17 := hG.tr hGst17 (by decide)
      have hF : FX 5 st sl so st17 sl18 so19 := hF.tr hFst17 (by omega) (by omega)
      have hR : CN c nm st17 sl18 0 := hR.fr0 hFst17
      rcases hw with ⟨n20, n21, rfl, hT, hf22, hf23, hf24, hf25, hf26⟩ | ⟨n27, n28, rfl, hf29, hf30, hf31, hf32⟩
      · have hp9 := hT.2.2.2.2.2.2
        have hk1 := tkd_lt (B := B) (g := g) (m := m) (p := n20)
        have hk2 := tkx_le (B := B) (g := g) (m := m) (p := n20) hp9
        have hk3 := tka_le (B := B) (g := g) (m := m) (p := n20) hp9 hB.2.2.1
        have hk4 := tkv_ltc (p := n20) hB hp9
        have hk5 := tkw_lt (B := B) (g := g) (m := m) (p := n20)
        refine lv_if_eq (tgt := 98) hx hb dX7_readOne_82 (by decide) (fun cc => absurd cc (by decide)) (fun _ => ?_)
        refine lv_aload_n hx hb dX7_readOne_85 rfl (lv_at hl 3 rfl) ?_
        refine lv_bipush (v := 41) hx hb dX7_readOne_86 (by decide) ?_
        refine va_calli (va_runV (As := [.int 41]) (rest := []) ⟨hx, hb, hml, hown, hts⟩ (y_takeMark41 l dC dI ad E hEE A C nb _ hN st17 sl18 so19 B g m n20 hG.1 hO.1 (CBt.fr hB hF) hT) (cwV 1 hts gX7_readOne_X8_takeMark rfl rfl rfl (by decide +kernel) ⟨Nat.le_of_ble_eq_true rfl, Nat.le_of_ble_eq_true rfl⟩) ⟨fun a U g mk q => ⟨q.1, xPre.blind hEE q.2⟩, va_recv hK hP (ci := 9) (q0 := 1) rfl (xw_is (r := 1) (by omega) (xc_fix (r := 1) (by omega))), fun U hU hW => ⟨rfl, xPre.of hEE hP hK hE hS hU hW⟩⟩ rfl rfl hl.1 rfl (lv_room (Nat.le_of_ble_eq_true rfl)) dX7_readOne_88 ⟨Nat.le_of_ble_eq_true rfl, Nat.le_of_ble_eq_true rfl⟩) hS (fun q _ h => XA.le hS.1 q h) (XA.le hS.1) (fun r33 x t H locs ht hvm hw hB9 _ _ hS => ?_)
        have hP := xB.at ht hB9
        clear hB9 ht hvm
        obtain ⟨st34, sl35, so36⟩ := x
        obtain ⟨hGst34, hOst34, hFst34, hw⟩ := hw
        dsimp only at hGst34 hOst34 hFst34 hw
        have hO : OG ad [2, 4] so so36 := hO.tr hOst34 (by decide)
        have hP : va_P (dC, dI) vwCl (xw A C nb st34 sl35 so36) _ := hP
        have hG : XG [1, 2, 3, 4, 5, 6, 7, 12, 13, 14, 15] st st34 := hG.tr hGst34 (by decide)
        have hF : FX 5 st sl so st34 sl35 so36 := hF.tr hFst34 (by omega) (by omega)
        have hR : CN c nm st34 sl35 0 := hR.fr0 hFst34
        rcases hw with ⟨rfl, hT, hf37, hf38, hf39⟩ | ⟨rfl, hf40, hf41, hf42⟩
        · have hp9 := hT.2.2.2.2.2.2
          have hk1 := tkd_lt (B := B) (g := g) (m := m) (p := (tkx B g m n20))
          have hk2 := tkx_le (B := B) (g := g) (m := m) (p := (tkx B g m n20)) hp9
          have hk3 := tka_le (B := B) (g := g) (m := m) (p := (tkx B g m n20)) hp9 hB.2.2.1
          have hk4 := tkv_ltc (p := (tkx B g m n20)) hB hp9
          have hk5 := tkw_lt (B := B) (g := g) (m := m) (p := (tkx B g m n20))
          refine lv_if_eq (tgt := 98) hx hb dX7_readOne_91 (by decide) (fun cc => absurd cc (by decide)) (fun _ => ?_)
          refine lv_iconst (v := 1) hx hb dX7_readOne_94 (by decide) ?_
          refine lv_goto (tgt := 99) hx hb dX7_readOne_95 (by decide) ?_
          exact W.zret (v := 1) hx hb hr rfl (fun t ht hW => ⟨⟨1, (st34, sl35, so36), rfl, ⟨hG, hO, hF, Or.inl (⟨(tkx B g m n20), n21, rfl, hT, by show st34 1 13 = st 1 13; rw [hf37, hf22, (hFst13 1 13 (by decide)).1, est11, up2_ne (r := (20 + 4 * 1)) (k := 4) (a := 1) (j := 13) _ _ (by omega)], by show st34 (20 + 4 * 1) 4 = _; rw [(hFst34 (20 + 4 * 1) 4 (by decide)).1, hf23], by omega, by omega, (sO_i (d := 2) (Or.inl ⟨hf2, hf3⟩) (by omega)).trans ((sIn_b ⟨hf2, hf3⟩).trans (sB_y hf26 ⟨hf38, hf39⟩))⟩)⟩, xB.of ht hP⟩, hS.F ht⟩) hS.2.2 dX7_readOne_99
        · refine lv_if_eq (tgt := 98) hx hb dX7_readOne_91 (by decide) (fun _ => ?_) (fun cc => absurd (by decide) cc)
          refine lv_iconst (v := 0) hx hb dX7_readOne_98 (by decide) ?_
          exact W.zret (v := 0) hx hb hr rfl (fun t ht hW => ⟨⟨0, (st34, sl35, so36), rfl, ⟨hG, hO, hF, Or.inr (⟨1, (tka B g m n20), rfl, by show st34 1 13 = _; rw [hf40], by show st34 1 14 = _; rw [hf41], by omega, (sO_i (d := 2) (Or.inl ⟨hf2, hf3⟩) (by omega)).trans ((sIn_b ⟨hf2, hf3⟩).trans (sB_n hf26 hf42))⟩)⟩, xB.of ht hP⟩, hS.F ht⟩) hS.2.2 dX7_readOne_99
      · refine lv_if_eq (tgt := 98) hx hb dX7_readOne_82 (by decide) (fun _ => ?_) (fun cc => absurd (by decide) cc)
        refine lv_iconst (v := 0) hx hb dX7_readOne_98 (by decide) ?_
        exact W.zret (v := 0) hx hb hr rfl (fun t ht hW => ⟨⟨0, (st17, sl18, so19), rfl, ⟨hG, hO, hF, Or.inr (⟨n27, n28, rfl, by show st17 1 13 = _; rw [hf29], by show st17 1 14 = _; rw [hf30], hf31, (sO_i (d := 2) (Or.inl ⟨hf2, hf3⟩) (by omega)).trans ((sIn_b ⟨hf2, hf3⟩).trans (sB_f hf32 (by omega)))⟩)⟩, xB.of ht hP⟩, hS.F ht⟩) hS.2.2 dX7_readOne_99
  · refine lv_istore (lv' := [(5, .int 0), (4, .ref (ad (tkw B g m p))), (0, .ref (A (20 + 4 * 1))), (1, .ref (A 1)), (2, .ref (A (36 + 20 * 0))), (3, .int 6)]) hx hb dX7_readOne_12 hl (by decide) rfl (fun ls hl => ?_)
    refine lv_iload hx hb dX7_readOne_14 (lv_at hl 0 rfl) ?_
    refine lv_if_ne (tgt := 33) hx hb dX7_readOne_16 (by decide) (fun cc => absurd (by decide) cc) (fun _ => ?_)
    refine lv_aload hx hb dX7_readOne_19 (lv_at hl 1 rfl) ?_
    refine va_calli (va_runS (As := [.ref (ad (tkw B g m p))]) (rest := []) ⟨hx, hb, hml, hown, hts⟩ (y_X7_beginsOne l dC dI ad E hEE A C nb _ hN st sl so (tkw B g m p) (by omega) hG.1 ) (va_cwS 1 hts gX7_readOne_X7_beginsOne rfl rfl rfl (by decide +kernel) ⟨Nat.le_of_ble_eq_true rfl, Nat.le_of_ble_eq_true rfl⟩) ⟨fun a U g mk q => ⟨q.1, xPre.blind hEE q.2⟩, fun U hU hW => ⟨rfl, xPre.of hEE hP hK hE hS hU hW⟩⟩ rfl rfl hl.1 rfl (lv_room (Nat.le_of_ble_eq_true rfl)) dX7_readOne_21 ⟨Nat.le_of_ble_eq_true rfl, Nat.le_of_ble_eq_true rfl⟩) hS (fun q _ h => XA.le hS.1 q h) (XA.le hS.1) (fun r43 x t H locs ht hvm hw hB9 _ _ hS => ?_)
    have hP := xB.at ht hB9
    clear hB9 ht hvm
    obtain ⟨rfl, hw⟩ := hw
    have hP : va_P (dC, dI) vwCl (xw A C nb st sl so) _ := hP
    rcases hw with ⟨rfl, hf44⟩ | ⟨rfl, hf45⟩
    · refine lv_if_ne (tgt := 33) hx hb dX7_readOne_24 (by decide) (fun _ => ?_) (fun cc => absurd cc (by decide))
      refine lv_aload_n hx hb dX7_readOne_33 rfl (lv_at hl 2 rfl) ?_
      refine va_get (D := (dC, dI)) (ci := 8) (v := .int (st (20 + 4 * 1) 4)) (C := RX7) (T := TX7) (N := 5) hx hb hts ii_X7_readOne_X7 hown hK hP (20 + 4 * 1) (xw_is (r := (20 + 4 * 1)) (by omega) (xc_sn (q := 1) (o := 0) (by omega) (by omega))) rfl 4 (by decide) (hts _ mm_X7_readOne_1) (fun _ hh => hh) rfl dX7_readOne_34 ?_
      refine zz_top (v := (nI go)) (by show st (20 + 4 * 1) 4 = _; rw [h4]) ?_
      refine lv_bipush (v := 20) hx hb dX7_readOne_37 (by decide) ?_
      refine lv_icmp_ge (tgt := 48) hx hb dX7_readOne_39 (by decide) (fun c11 => ?_) (fun c11 => ?_)
      · have c11 : 20 ≤ go := (nI_leI (a := 20) (b := go) (by omega) (by omega)).mp c11
        refine lv_aload_n hx hb dX7_readOne_48 rfl (lv_at hl 3 rfl) ?_
        refine lv_iconst (v := 4) hx hb dX7_readOne_49 (by decide) ?_
        refine va_calli (va_runV (As := [.int 4]) (rest := []) ⟨hx, hb, hml, hown, hts⟩ (y_X8_refuse l dC dI ad E hEE A C nb _ hN st sl so 4 B g m p (by omega) hG.1 hO.1 (CBt.fr hB hF) hT) (cwV 1 hts gX7_readOne_X8_refuse rfl rfl rfl (by decide +kernel) ⟨Nat.le_of_ble_eq_true rfl, Nat.le_of_ble_eq_true rfl⟩) ⟨fun a U g mk q => ⟨q.1, xPre.blind hEE q.2⟩, va_recv hK hP (ci := 9) (q0 := 1) rfl (xw_is (r := 1) (by omega) (xc_fix (r := 1) (by omega))), fun U hU hW => ⟨rfl, xPre.of hEE hP hK hE hS hU hW⟩⟩ rfl rfl hl.1 rfl (lv_room (Nat.le_of_ble_eq_true rfl)) dX7_readOne_50 ⟨Nat.le_of_ble_eq_true rfl, Nat.le_of_ble_eq_true rfl⟩) hS (fun q _ h => XA.le hS.1 q h) (XA.le hS.1) (fun r46 x t H locs ht hvm hw hB9 _ _ hS => ?_)
        have hP := xB.at ht hB9
        clear hB9 ht hvm
        obtain ⟨st47, sl48, so49⟩ := x
        obtain ⟨hGst47, hOst47, hFst47, hw⟩ := hw
        dsimp only at hGst47 hOst47 hFst47 hw
        have hO : OG ad [2, 4] so so49 := hO.tr hOst47 (by decide)
        have hP : va_P (dC, dI) vwCl (xw A C nb st47 sl48 so49) _ := hP
        have hG : XG [1, 2, 3, 4, 5, 6, 7, 12, 13, 14, 15] st st47 := hG.tr hGst47 (by decide)
        have hF : FX 5 st sl so st47 sl48 so49 := hF.tr hFst47 (by omega) (by omega)
        have hR : CN c nm st47 sl48 0 := hR.fr0 hFst47
        obtain ⟨rfl, hf50, hf51, hT⟩ := hw
        have hp9 := hT.2.2.2.2.2.2
        have hk1 := tkd_lt (B := B) (g := g) (m := m) (p := p)
        have hk2 := tkx_le (B := B) (g := g) (m := m) (p := p) hp9
        have hk3 := tka_le (B := B) (g := g) (m := m) (p := p) hp9 hB.2.2.1
        have hk4 := tkv_ltc (p := p) hB hp9
        have hk5 := tkw_lt (B := B) (g := g) (m := m) (p := p)
        exact W.zret (v := 0) hx hb hr rfl (fun t ht hW => ⟨⟨0, (st47, sl48, so49), rfl, ⟨hG, hO, hF, Or.inr (⟨4, (tka B g m p), rfl, by show st47 1 13 = _; rw [hf50], by show st47 1 14 = _; rw [hf51], by omega, sO_4 (Or.inr hf44) (Or.inr (by omega))⟩)⟩, xB.of ht hP⟩, hS.F ht⟩) hS.2.2 dX7_readOne_53
      · have c11 : ¬ 20 ≤ go := fun hh => c11 ((nI_leI (a := 20) (b := go) (by omega) (by omega)).mpr hh)
        refine lv_iload_n hx hb dX7_readOne_42 rfl (lv_at hl 5 rfl) ?_
        refine lv_bipush (v := 8) hx hb dX7_readOne_43 (by decide) ?_
        refine lv_icmp_le (tgt := 54) hx hb dX7_readOne_45 (by decide) (fun _ => ?_) (fun cc => absurd (by decide) cc)
        refine lv_aload_n hx hb dX7_readOne_54 rfl (lv_at hl 2 rfl) ?_
        refine lv_dup hx hb dX7_readOne_55 rfl ?_
        refine va_get (D := (dC, dI)) (ci := 8) (v := .int (st (20 + 4 * 1) 4)) (C := RX7) (T := TX7) (N := 5) hx hb hts ii_X7_readOne_X7 hown hK hP (20 + 4 * 1) (xw_is (r := (20 + 4 * 1)) (by omega) (xc_sn (q := 1) (o := 0) (by omega) (by omega))) rfl 4 (by decide) (hts _ mm_X7_readOne_1) (fun _ hh => hh) rfl dX7_readOne_56 ?_
        refine zz_top (v := (nI go)) (by show st (20 + 4 * 1) 4 = _; rw [h4]) ?_
        refine lv_iconst (v := 1) hx hb dX7_readOne_59 (by decide) ?_
        refine lv_iadd hx hb dX7_readOne_60 ?_
        refine zz_top (v := nI (go + 1)) (nI_add go 1) ?_
        refine va_put (D := (dC, dI)) (ci := 8) (v := .int (nI (go + 1))) (ty := .int) (C := RX7) (T := TX7) (N := 5) hx hb hts ii_X7_readOne_X7 tyX7 tyX7_ok nmX7 hown hK hP (xD hN _ _ _ _ _ _) hS (20 + 4 * 1) (xw_is (r := (20 + 4 * 1)) (by omega) (xc_sn (q := 1) (o := 0) (by omega) (by omega))) rfl 4 (by decide) (hts _ mm_X7_readOne_1) (fun _ hh => hh) rfl (by decide +kernel) rfl rfl (Nat.le_of_ble_eq_true rfl) dX7_readOne_61 (fun H locs hP _ hS => ?_)
        have hP : va_P (dC, dI) vwCl (xw A C nb (up2 st (20 + 4 * 1) 4 (nI (go + 1))) sl so) H := by rw [← xset (r := (20 + 4 * 1)) (k := 4) (v := (nI (go + 1))) (xc_sn (q := 1) (o := 0) (by omega) (by omega))]; exact hP
        obtain ⟨st52, est52⟩ : ∃ y, y = up2 st (20 + 4 * 1) 4 (nI (go + 1)) := ⟨_, rfl⟩
        have hG : XG [1, 2, 3, 4, 5, 6, 7, 12, 13, 14, 15] st st52 := by rw [est52]; exact hG.up (xz (r := (20 + 4 * 1)) (k := 4) ((xrg_sn (q := 1) (o := 0) (by omega) (by omega)).trans (by first | rfl | decide))) (xpn (c := 0) ((xcl_sn (q := 1) (o := 0) (k := 4) (by omega) (by omega)).trans (by first | rfl | decide)) (by decide))
        rw [← est52] at hP
        have hF : FX 5 st sl so st52 sl so := by rw [est52]; exact hF.up (dc_sn (o := 0) (by omega))
        have hT : TC B g m p ad st52 sl so := by rw [est52]; exact hT.up (by omega)
        have hR : CN c nm st52 sl 0 := by rw [est52]; exact hR.up (by omega)
        refine lv_aload_n hx hb dX7_readOne_64 rfl (lv_at hl 3 rfl) ?_
        refine va_callv (va_runV (As := []) (rest := []) ⟨hx, hb, hml, hown, hts⟩ (y_X8_step l dC dI ad E hEE A C nb _ hN st52 sl so B g m (tkx B g m p) hG.1 hO.1 (CBt.fr hB hF) hT.1 hk2.2) (cwV 0 hts gX7_readOne_X8_step rfl rfl rfl (by decide +kernel) ⟨Nat.le_of_ble_eq_true rfl, Nat.le_of_ble_eq_true rfl⟩) ⟨fun a U g mk q => ⟨q.1, xPre.blind hEE q.2⟩, va_recv hK hP (ci := 9) (q0 := 1) rfl (xw_is (r := 1) (by omega) (xc_fix (r := 1) (by omega))), fun U hU hW => ⟨rfl, xPre.of hEE hP hK hE hS hU hW⟩⟩ rfl rfl hl.1 rfl (lv_room (Nat.le_of_ble_eq_true rfl)) dX7_readOne_65 ⟨Nat.le_of_ble_eq_true rfl, Nat.le_of_ble_eq_true rfl⟩) hS (fun q _ h => XA.le hS.1 q h) (XA.le hS.1) (fun x t H locs ht hvm hw hB9 _ _ hS => ?_)
        have hP := xB.at ht hB9
        clear hB9 ht hvm
        obtain ⟨st54, sl55, so56⟩ := x
        obtain ⟨hGst54, hOst54, hFst54, hw⟩ := hw
        dsimp only at hGst54 hOst54 hFst54 hw
        have hO : OG ad [2, 4] so so56 := hO.tr hOst54 (by decide)
        have hP : va_P (dC, dI) vwCl (xw A C nb st54 sl55 so56) _ := hP
        have hG : XG [1, 2, 3, 4, 5, 6, 7, 12, 13, 14, 15] st st54 := hG.tr hGst54 (by decide)
        have hF : FX 5 st sl so st54 sl55 so56 := hF.tr hFst54 (by omega) (by omega)
        have hR : CN c nm st54 sl55 0 := hR.fr0 hFst54
        have hT := hw
        have hp9 := hT.2.2.2.2.2.2
        have hk1 := tkd_lt (B := B) (g := g) (m := m) (p := (tkx B g m p))
        have hk2 := tkx_le (B := B) (g := g) (m := m) (p := (tkx B g m p)) hp9
        have hk3 := tka_le (B := B) (g := g) (m := m) (p := (tkx B g m p)) hp9 hB.2.2.1
        have hk4 := tkv_ltc (p := (tkx B g m p)) hB hp9
        have hk5 := tkw_lt (B := B) (g := g) (m := m) (p := (tkx B g m p))
        refine lv_iload hx hb dX7_readOne_68 (lv_at hl 0 rfl) ?_
        refine lv_if_eq (tgt := 100) hx hb dX7_readOne_70 (by decide) (fun _ => ?_) (fun cc => absurd (by decide) cc)
        refine lv_aload hx hb dX7_readOne_100 (lv_at hl 1 rfl) ?_
        refine va_gets (v := .ref (ad 15)) hx hb (EV.word hEv (i := 15) (by decide)) hS hown (hts _ mm_X7_readOne_2) (fun _ hh => hh) dX7_readOne_102 ?_
        refine lv_acmp_ne (rx := (some (ad (tkw B g m p)))) (ry := (some (ad 15))) (tgt := 131) hx hb dX7_readOne_105 (by decide) (fun c14 => ?_) (fun c14 => ?_)
        · have c14 : ¬ (tkw B g m p) = 15 := fun hh => c14 ((EV.eqw hEv (i := (tkw B g m p)) (j := 15) (by omega) (by omega)).mpr hh)
          refine lv_aload_n hx hb dX7_readOne_131 rfl (lv_at hl 2 rfl) ?_
          refine lv_aload_n hx hb dX7_readOne_132 rfl (lv_at hl 3 rfl) ?_
          refine lv_aload_n hx hb dX7_readOne_133 rfl (lv_at hl 4 rfl) ?_
          refine lv_aload hx hb dX7_readOne_134 (lv_at hl 1 rfl) ?_
          refine va_calli (va_runV (As := [.ref (A 1), .ref (A (36 + 20 * 0)), .ref (ad (tkw B g m p))]) (rest := []) ⟨hx, hb, hml, hown, hts⟩ (y_X7_readPlain l dC dI ad E hEE A C nb _ hN st54 sl55 so56 (tkw B g m p) B g m (tkx B g m p) c nm (by omega) hG.1 hO.1 (CBt.fr hB hF) hT hR (by omega)) (cwV 3 hts gX7_readOne_X7_readPlain rfl rfl rfl (by decide +kernel) ⟨Nat.le_of_ble_eq_true rfl, Nat.le_of_ble_eq_true rfl⟩) ⟨fun a U g mk q => ⟨q.1, xPre.blind hEE q.2⟩, va_recv hK hP (ci := 8) (q0 := (20 + 4 * 1)) rfl (xw_is (r := (20 + 4 * 1)) (by omega) (xc_sn (q := 1) (o := 0) (by omega) (by omega))), fun U hU hW => ⟨rfl, xPre.of hEE hP hK hE hS hU hW⟩⟩ rfl rfl hl.1 rfl (lv_room (Nat.le_of_ble_eq_true rfl)) dX7_readOne_136 ⟨Nat.le_of_ble_eq_true rfl, Nat.le_of_ble_eq_true rfl⟩) hS (fun q _ h => XA.le hS.1 q h) (XA.le hS.1) (fun r57 x t H locs ht hvm hw hB9 _ _ hS => ?_)
          have hP := xB.at ht hB9
          clear hB9 ht hvm
          obtain ⟨st58, sl59, so60⟩ := x
          obtain ⟨hGst58, hOst58, hFst58, hw⟩ := hw
          dsimp only at hGst58 hOst58 hFst58 hw
          have hO : OG ad [2, 4] so so60 := hO.tr hOst58 (by decide)
          have hP : va_P (dC, dI) vwCl (xw A C nb st58 sl59 so60) _ := hP
          have hG : XG [1, 2, 3, 4, 5, 6, 7, 12, 13, 14, 15] st st58 := hG.tr hGst58 (by decide)
          have hF : FX 5 st sl so st58 sl59 so60 := hF.tr hFst58 (by omega) (by omega)
          have hR : CN c nm st58 sl59 0 := hR.fr0 hFst58
          rcases hw with ⟨n61, rfl, hT, hf62, hf63, hf64⟩ | ⟨n65, n66, rfl, hf67, hf68, hf69, hf70⟩
          · have hp9 := hT.2.2.2.2.2.2
            have hk1 := tkd_lt (B := B) (g := g) (m := m) (p := n61)
            have hk2 := tkx_le (B := B) (g := g) (m := m) (p := n61) hp9
            have hk3 := tka_le (B := B) (g := g) (m := m) (p := n61) hp9 hB.2.2.1
            have hk4 := tkv_ltc (p := n61) hB hp9
            have hk5 := tkw_lt (B := B) (g := g) (m := m) (p := n61)
            exact W.zret (v := 1) hx hb hr rfl (fun t ht hW => ⟨⟨1, (st58, sl59, so60), rfl, ⟨hG, hO, hF, Or.inl (⟨n61, (go + 1), rfl, hT, by show st58 1 13 = st 1 13; rw [hf62, (hFst54 1 13 (by decide)).1, est52, up2_ne (r := (20 + 4 * 1)) (k := 4) (a := 1) (j := 13) _ _ (by omega)], by show st58 (20 + 4 * 1) 4 = _; rw [hf63, (hFst54 (20 + 4 * 1) 4 (by decide)).1, est52, up2_same], by omega, by omega, (sO_i (d := 2) (Or.inr hf44) (by omega)).trans ((sIn_p hf4 (by omega) rfl).trans (hf64 _))⟩)⟩, xB.of ht hP⟩, hS.F ht⟩) hS.2.2 dX7_readOne_139
          · exact W.zret (v := 0) hx hb hr rfl (fun t ht hW => ⟨⟨0, (st58, sl59, so60), rfl, ⟨hG, hO, hF, Or.inr (⟨n65, n66, rfl, by show st58 1 13 = _; rw [hf67], by show st58 1 14 = _; rw [hf68], hf69, (sO_i (d := 2) (Or.inr hf44) (by omega)).trans ((sIn_p hf4 (by omega) rfl).trans (hf70 _))⟩)⟩, xB.of ht hP⟩, hS.F ht⟩) hS.2.2 dX7_readOne_139
        · have c14 : (tkw B g m p) = 15 := (EV.eqw hEv (i := (tkw B g m p)) (j := 15) (by omega) (by omega)).mp c14
          refine lv_aload_n hx hb dX7_readOne_108 rfl (lv_at hl 2 rfl) ?_
          refine lv_aload_n hx hb dX7_readOne_109 rfl (lv_at hl 3 rfl) ?_
          refine lv_aload_n hx hb dX7_readOne_110 rfl (lv_at hl 4 rfl) ?_
          refine lv_iload_n hx hb dX7_readOne_111 rfl (lv_at hl 5 rfl) ?_
          refine lv_iconst (v := 1) hx hb dX7_readOne_112 (by decide) ?_
          refine lv_iadd hx hb dX7_readOne_113 ?_
          refine zz_top (v := 7) (by decide) ?_
          refine va_calli (va_runV (As := [.ref (A 1), .ref (A (36 + 20 * 0)), .int 7]) (rest := []) ⟨hx, hb, hml, hown, hts⟩ (y_readOne_7 l dC dI ad E hEE A C nb _ hN st54 sl55 so56 B g m (tkx B g m p) c nm (go + 1) hG.1 hO.1 (CBt.fr hB hF) hT hR (by rw [(hFst54 (20 + 4 * 1) 4 (by decide)).1, est52, up2_same]) (by omega)) (cwV 3 hts gX7_readOne_X7_readOne rfl rfl rfl (by decide +kernel) ⟨Nat.le_of_ble_eq_true rfl, Nat.le_of_ble_eq_true rfl⟩) ⟨fun a U g mk q => ⟨q.1, xPre.blind hEE q.2⟩, va_recv hK hP (ci := 8) (q0 := (20 + 4 * 1)) rfl (xw_is (r := (20 + 4 * 1)) (by omega) (xc_sn (q := 1) (o := 0) (by omega) (by omega))), fun U hU hW => ⟨rfl, xPre.of hEE hP hK hE hS hU hW⟩⟩ rfl rfl hl.1 rfl (lv_room (Nat.le_of_ble_eq_true rfl)) dX7_readOne_114 ⟨Nat.le_of_ble_eq_true rfl, Nat.le_of_ble_eq_true rfl⟩) hS (fun q _ h => XA.le hS.1 q h) (XA.le hS.1) (fun r71 x t H locs ht hvm hw hB9 _ _ hS => ?_)
          have hP := xB.at ht hB9
          clear hB9 ht hvm
          obtain ⟨st72, sl73, so74⟩ := x
          obtain ⟨hGst72, hOst72, hFst72, hw⟩ := hw
          dsimp only at hGst72 hOst72 hFst72 hw
          have hO : OG ad [2, 4] so so74 := hO.tr hOst72 (by decide)
          have hP : va_P (dC, dI) vwCl (xw A C nb st72 sl73 so74) _ := hP
          have hG : XG [1, 2, 3, 4, 5, 6, 7, 12, 13, 14, 15] st st72 := hG.tr hGst72 (by decide)
          have hF : FX 5 st sl so st72 sl73 so74 := hF.tr hFst72 (by omega) (by omega)
          have hR : CN c nm st72 sl73 0 := hR.fr0 hFst72
          rcases hw with ⟨n75, n76, rfl, hT, hf77, hf78, hf79, hf80, hf81⟩ | ⟨n82, n83, rfl, hf84, hf85, hf86, hf87⟩
          · have hp9 := hT.2.2.2.2.2.2
            have hk1 := tkd_lt (B := B) (g := g) (m := m) (p := n75)
            have hk2 := tkx_le (B := B) (g := g) (m := m) (p := n75) hp9
            have hk3 := tka_le (B := B) (g := g) (m := m) (p := n75) hp9 hB.2.2.1
            have hk4 := tkv_ltc (p := n75) hB hp9
            have hk5 := tkw_lt (B := B) (g := g) (m := m) (p := n75)
            refine lv_istore (lv' := [(6, .int 1), (5, .int 0), (4, .ref (ad (tkw B g m p))), (0, .ref (A (20 + 4 * 1))), (1, .ref (A 1)), (2, .ref (A (36 + 20 * 0))), (3, .int 6)]) hx hb dX7_readOne_117 hl (by decide) rfl (fun ls hl => ?_)
            refine lv_aload_n hx hb dX7_readOne_119 rfl (lv_at hl 3 rfl) ?_
            refine va_gets (v := .ref (ad 15)) hx hb (EV.word hEv (i := 15) (by decide)) hS hown (hts _ mm_X7_readOne_2) (fun _ hh => hh) dX7_readOne_120 ?_
            refine lv_iconst (v := 0) hx hb dX7_readOne_123 (by decide) ?_
            refine lv_iconst (v := 0) hx hb dX7_readOne_124 (by decide) ?_
            refine va_callv (va_runV (As := [.ref (ad 15), .int 0, .int 0]) (rest := []) ⟨hx, hb, hml, hown, hts⟩ (y_addT l dC dI ad E hEE A C nb _ hN st72 sl73 so74 15 0 0 B g m n75 (by omega) hG.1 hO.1 (CBt.fr hB hF) hT) (cwV 3 hts gX7_readOne_X7_add rfl rfl rfl (by decide +kernel) ⟨Nat.le_of_ble_eq_true rfl, Nat.le_of_ble_eq_true rfl⟩) ⟨fun a U g mk q => ⟨q.1, xPre.blind hEE q.2⟩, va_recv hK hP (ci := 8) (q0 := (20 + 4 * 1)) rfl (xw_is (r := (20 + 4 * 1)) (by omega) (xc_sn (q := 1) (o := 0) (by omega) (by omega))), fun U hU hW => ⟨rfl, xPre.of hEE hP hK hE hS hU hW⟩⟩ rfl rfl hl.1 rfl (lv_room (Nat.le_of_ble_eq_true rfl)) dX7_readOne_125 ⟨Nat.le_of_ble_eq_true rfl, Nat.le_of_ble_eq_true rfl⟩) hS (fun q _ h => XA.le hS.1 q h) (XA.le hS.1) (fun x t H locs ht hvm hw hB9 _ _ hS => ?_)
            have hP := xB.at ht hB9
            clear hB9 ht hvm
            obtain ⟨st89, sl90, so91⟩ := x
            obtain ⟨hGst89, hOst89, hFst89, hw⟩ := hw
            dsimp only at hGst89 hOst89 hFst89 hw
            have hO : OG ad [2, 4] so so91 := hO.tr hOst89 (by decide)
            have hP : va_P (dC, dI) vwCl (xw A C nb st89 sl90 so91) _ := hP
            have hG : XG [1, 2, 3, 4, 5, 6, 7, 12, 13, 14, 15] st st89 := hG.tr hGst89 (by decide)
            have hF : FX 5 st sl so st89 sl90 so91 := hF.tr hFst89 (by omega) (by omega)
            have hR : CN c nm st89 sl90 0 := hR.fr0 hFst89
            obtain ⟨hf92, hf93, hf94, hT⟩ := hw
            have hp9 := hT.2.2.2.2.2.2
            have hk1 := tkd_lt (B := B) (g := g) (m := m) (p := n75)
            have hk2 := tkx_le (B := B) (g := g) (m := m) (p := n75) hp9
            have hk3 := tka_le (B := B) (g := g) (m := m) (p := n75) hp9 hB.2.2.1
            have hk4 := tkv_ltc (p := n75) hB hp9
            have hk5 := tkw_lt (B := B) (g := g) (m := m) (p := n75)
            refine lv_iload hx hb dX7_readOne_128 (lv_at hl 0 rfl) ?_
            exact W.zret (v := 1) hx hb hr rfl (fun t ht hW => ⟨⟨1, (st89, sl90, so91), rfl, ⟨hG, hO, hF, Or.inl (⟨n75, n76, rfl, hT, by show st89 1 13 = st 1 13; rw [hf92, hf77, (hFst54 1 13 (by decide)).1, est52, up2_ne (r := (20 + 4 * 1)) (k := 4) (a := 1) (j := 13) _ _ (by omega)], by show st89 (20 + 4 * 1) 4 = _; rw [hf94, hf78], by omega, by omega, (sO_i (d := 2) (Or.inr hf44) (by omega)).trans ((sIn_n hf4 (by omega)).trans hf81)⟩)⟩, xB.of ht hP⟩, hS.F ht⟩) hS.2.2 dX7_readOne_130
          · refine lv_istore (lv' := [(6, .int 0), (5, .int 0), (4, .ref (ad (tkw B g m p))), (0, .ref (A (20 + 4 * 1))), (1, .ref (A 1)), (2, .ref (A (36 + 20 * 0))), (3, .int 6)]) hx hb dX7_readOne_117 hl (by decide) rfl (fun ls hl => ?_)
            refine lv_aload_n hx hb dX7_readOne_119 rfl (lv_at hl 3 rfl) ?_
            refine va_gets (v := .ref (ad 15)) hx hb (EV.word hEv (i := 15) (by decide)) hS hown (hts _ mm_X7_readOne_2) (fun _ hh => hh) dX7_readOne_120 ?_
            refine lv_iconst (v := 0) hx hb dX7_readOne_123 (by decide) ?_
            refine lv_iconst (v := 0) hx hb dX7_readOne_124 (by decide) ?_
            refine va_callv (va_runV (As := [.ref (ad 15), .int 0, .int 0]) (rest := []) ⟨hx, hb, hml, hown, hts⟩ (y_addN l dC dI ad E hEE A C nb _ hN st72 sl73 so74 15 0 0 (by omega) hG.1 hO.1 ) (cwV 3 hts gX7_readOne_X7_add rfl rfl rfl (by decide +kernel) ⟨Nat.le_of_ble_eq_true rfl, Nat.le_of_ble_eq_true rfl⟩) ⟨fun a U g mk q => ⟨q.1, xPre.blind hEE q.2⟩, va_recv hK hP (ci := 8) (q0 := (20 + 4 * 1)) rfl (xw_is (r := (20 + 4 * 1)) (by omega) (xc_sn (q := 1) (o := 0) (by omega) (by omega))), fun U hU hW => ⟨rfl, xPre.of hEE hP hK hE hS hU hW⟩⟩ rfl rfl hl.1 rfl (lv_room (Nat.le_of_ble_eq_true rfl)) dX7_readOne_125 ⟨Nat.le_of_ble_eq_true rfl, Nat.le_of_ble_eq_true rfl⟩) hS (fun q _ h => XA.le hS.1 q h) (XA.le hS.1) (fun x t H locs ht hvm hw hB9 _ _ hS => ?_)
            have hP := xB.at ht hB9
            clear hB9 ht hvm
            obtain ⟨st96, sl97, so98⟩ := x
            obtain ⟨hGst96, hOst96, hFst96, hw⟩ := hw
            dsimp only at hGst96 hOst96 hFst96 hw
            have hO : OG ad [2, 4] so so98 := hO.tr hOst96 (by decide)
            have hP : va_P (dC, dI) vwCl (xw A C nb st96 sl97 so98) _ := hP
            have hG : XG [1, 2, 3, 4, 5, 6, 7, 12, 13, 14, 15] st st96 := hG.tr hGst96 (by decide)
            have hF : FX 5 st sl so st96 sl97 so98 := hF.tr hFst96 (by omega) (by omega)
            have hR : CN c nm st96 sl97 0 := hR.fr0 hFst96
            obtain ⟨hf99, hf100, hf101⟩ := hw
            refine lv_iload hx hb dX7_readOne_128 (lv_at hl 0 rfl) ?_
            exact W.zret (v := 0) hx hb hr rfl (fun t ht hW => ⟨⟨0, (st96, sl97, so98), rfl, ⟨hG, hO, hF, Or.inr (⟨n82, n83, rfl, by show st96 1 13 = _; rw [hf99, hf84], by show st96 1 14 = _; rw [hf100, hf85], hf86, (sO_i (d := 2) (Or.inr hf44) (by omega)).trans ((sIn_n hf4 (by omega)).trans hf87)⟩)⟩, xB.of ht hP⟩, hS.F ht⟩) hS.2.2 dX7_readOne_130
    · refine lv_if_ne (tgt := 33) hx hb dX7_readOne_24 (by decide) (fun cc => absurd (by decide) cc) (fun _ => ?_)
      refine lv_aload_n hx hb dX7_readOne_27 rfl (lv_at hl 3 rfl) ?_
      refine lv_iconst (v := 1) hx hb dX7_readOne_28 (by decide) ?_
      refine va_calli (va_runV (As := [.int 1]) (rest := []) ⟨hx, hb, hml, hown, hts⟩ (y_X8_refuse l dC dI ad E hEE A C nb _ hN st sl so 1 B g m p (by omega) hG.1 hO.1 (CBt.fr hB hF) hT) (cwV 1 hts gX7_readOne_X8_refuse rfl rfl rfl (by decide +kernel) ⟨Nat.le_of_ble_eq_true rfl, Nat.le_of_ble_eq_true rfl⟩) ⟨fun a U g mk q => ⟨q.1, xPre.blind hEE q.2⟩, va_recv hK hP (ci := 9) (q0 := 1) rfl (xw_is (r := 1) (by omega) (xc_fix (r := 1) (by omega))), fun U hU hW => ⟨rfl, xPre.of hEE hP hK hE hS hU hW⟩⟩ rfl rfl hl.1 rfl (lv_room (Nat.le_of_ble_eq_true rfl)) dX7_readOne_29 ⟨Nat.le_of_ble_eq_true rfl, Nat.le_of_ble_eq_true rfl⟩) hS (fun q _ h => XA.le hS.1 q h) (XA.le hS.1) (fun r102 x t H locs ht hvm hw hB9 _ _ hS => ?_)
      have hP := xB.at ht hB9
      clear hB9 ht hvm
      obtain ⟨st103, sl104, so105⟩ := x
      obtain ⟨hGst103, hOst103, hFst103, hw⟩ := hw
      dsimp only at hGst103 hOst103 hFst103 hw
      have hO : OG ad [2, 4] so so105 := hO.tr hOst103 (by decide)
      have hP : va_P (dC, dI) vwCl (xw A C nb st103 sl104 so105) _ := hP
      have hG : XG [1, 2, 3, 4, 5, 6, 7, 12, 13, 14, 15] st st103 := hG.tr hGst103 (by decide)
      have hF : FX 5 st sl so st103 sl104 so105 := hF.tr hFst103 (by omega) (by omega)
      have hR : CN c nm st103 sl104 0 := hR.fr0 hFst103
      obtain ⟨rfl, hf106, hf107, hT⟩ := hw
      have hp9 := hT.2.2.2.2.2.2
      have hk1 := tkd_lt (B := B) (g := g) (m := m) (p := p)
      have hk2 := tkx_le (B := B) (g := g) (m := m) (p := p) hp9
      have hk3 := tka_le (B := B) (g := g) (m := m) (p := p) hp9 hB.2.2.1
      have hk4 := tkv_ltc (p := p) hB hp9
      have hk5 := tkw_lt (B := B) (g := g) (m := m) (p := p)
      exact W.zret (v := 0) hx hb hr rfl (fun t ht hW => ⟨⟨0, (st103, sl104, so105), rfl, ⟨hG, hO, hF, Or.inr (⟨1, (tka B g m p), rfl, by show st103 1 13 = _; rw [hf106], by show st103 1 14 = _; rw [hf107], by omega, sO_1 (fun z9 => z9.elim hf4 hf45)⟩)⟩, xB.of ht hP⟩, hS.F ht⟩) hS.2.2 dX7_readOne_32
