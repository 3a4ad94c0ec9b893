set_option maxHeartbeats 4000000 in
set_option maxRecDepth 100000 in
theorem x_X0_readAll (l : Launch) (dC : Nat → ClassId) (dI : Nat → Nat → Nat) (ad : Nat → Nat) (E : EP) (hEE : EC ad E) (A : Nat → Nat) (C : Nat → ClassId) (nb sz : Nat) (hN : XN A) (st : Nat → Nat → Int32) (sl : Nat → Nat → Int64) (so : Nat → XR) (hI : XI st) (hOI : OI ad so) : Met l yX0_readAll wsX0_readAll ({ frames := 9, cells := 0, slots := 0, locals := 201 }) (va_Pc [.ref (A 4), .ref (A 1), .ref (A (36 + 20 * 0))] (xPre E dC dI A C nb sz st sl so)) (va_Qv (fun (x : XT) => XG [1, 2, 4, 5, 7, 8, 9, 12, 13, 14, 15] st x.1 ∧ LGq sl x.2.1 ∧ OG ad [3, 4] so x.2.2 ∧ (∃ n : Nat, x.1 4 5 = nI n ∧ n < 41 ∧ BKs ad x.1 x.2.2 n)) (xB dC dI A C nb) (XA A sz)) 0 0 (XA A sz) := by
  refine Met.ofW (cc := cX0_readAll) (maxL := 5) (ret := none) (by decide) rfl ?_
  intro p e s m args below meth c s₁ B hml hv
  obtain ⟨rfl, hsz, hP, hK, hE⟩ := hv
  have hx := B.exec
  have hb := B.bytes
  have hr := B.returns
  have hts := atoms_spec (ws := wsX0_readAll) B.pre
  have hown : s.vm.findClass RX0 = some m.cls := findClass_of_methodNamed B.named
  subst hsz
  have hEv := hEE.1 _ _ _ hE
  have hS : va_S (XA A s.heap.size) s.heap s.heap [] := va_S.rf
  have hG : XG [1, 2, 4, 5, 7, 8, 9, 12, 13, 14, 15] st st := XG.rf hI
  have hO : OG ad [3, 4] so so := OG.rf hOI
  have hl := lv_entry ([.ref (A 4), .ref (A 1), .ref (A (36 + 20 * 0))]) (n := 5) (Nat.le_of_ble_eq_true rfl)
  rw [lg_entry_eq]
  generalize (lg_sl ([.ref (A 4), .ref (A 1), .ref (A (36 + 20 * 0))]) ++ List.replicate (5 - (lg_sl ([.ref (A 4), .ref (A 1), .ref (A (36 + 20 * 0))])).length) Slot.unset).toArray = ls at hl ⊢
  have hl : lv_has ls 5 [(0, .ref (A 4)), (1, .ref (A 1)), (2, .ref (A (36 + 20 * 0)))] := hl
  have hL : LGq sl sl := LGq.rf
  refine lv_aload_n hx hb dX0_readAll_0 rfl (lv_at hl 0 rfl) ?_
  refine lv_iconst (v := 0) hx hb dX0_readAll_1 (by decide) ?_
  refine va_put (D := (dC, dI)) (ci := 1) (v := .int 0) (ty := .int) (C := RX0) (T := TX0) (N := 7) hx hb hts ii_X0_readAll_X0 tyX0 tyX0_ok nmX0 hown hK hP (xD hN _ _ _ _ _ _) hS 4 (xw_is (r := 4) (by omega) (xc_fix (r := 4) (by omega))) rfl 5 (by decide) (hts _ mm_X0_readAll_1) (fun _ hh => hh) rfl (by decide +kernel) rfl rfl (Nat.le_of_ble_eq_true rfl) dX0_readAll_2 (fun H locs hP _ hS => ?_)
  have hP : va_P (dC, dI) vwCl (xw A C nb (up2 st 4 5 0) sl so) H := by rw [← xset (r := 4) (k := 5) (v := 0) (xc_fix (r := 4) (by omega))]; exact hP
  obtain ⟨st1, est1⟩ : ∃ y, y = up2 st 4 5 0 := ⟨_, rfl⟩
  have hG : XG [1, 2, 4, 5, 7, 8, 9, 12, 13, 14, 15] st st1 := by rw [est1]; exact hG.up (xn (n := 0) (b := 41) (by decide : xrg 4 5 = 41) (by omega)) (xpn (c := 6) (by decide : xcl 4 5 = 6) (by decide))
  rw [← est1] at hP
  refine lv_iconst (v := 1) hx hb dX0_readAll_5 (by decide) ?_
  refine lv_istore_n (lv' := [(3, .int 1), (0, .ref (A 4)), (1, .ref (A 1)), (2, .ref (A (36 + 20 * 0)))]) hx hb dX0_readAll_6 rfl hl (by decide) rfl (fun ls hl => ?_)
  refine lv_iconst (v := 0) hx hb dX0_readAll_7 (by decide) ?_
  refine lv_istore (lv' := [(4, .int 0), (3, .int 1), (0, .ref (A 4)), (1, .ref (A 1)), (2, .ref (A (36 + 20 * 0)))]) hx hb dX0_readAll_8 hl (by decide) rfl (fun ls hl => ?_)
  refine zz_wf (fun n stk H locs ls => ∃ k2 : Nat, ∃ k3 : Nat, ∃ st4 : Nat → Nat → Int32, ∃ sl5 : Nat → Nat → Int64, ∃ so6 : Nat → XR, ∃ g7 : Nat, n = 42 - k2 ∧ 0 ≤ k2 ∧ k2 < 42 ∧ 0 ≤ k3 ∧ k3 < 2 ∧ g7 < 41 ∧ st4 4 5 = nI g7 ∧ BKs ad st4 so6 g7 ∧ va_P (dC, dI) vwCl (xw A C nb st4 sl5 so6) H ∧ XG [1, 2, 4, 5, 7, 8, 9, 12, 13, 14, 15] st st4 ∧ OG ad [3, 4] so so6 ∧ LGq sl sl5 ∧ va_S (XA A s.heap.size) s.heap H locs ∧ lv_has ls 5 [(4, .int (nI k2)), (3, .int (nI k3)), (0, .ref (A 4)), (1, .ref (A 1)), (2, .ref (A (36 + 20 * 0)))] ∧ stk = []) ?_ (42 - 0) _ _ _ _ ⟨0, 1, st1, sl, so, 0, rfl, by omega, by omega, by omega, by omega, by omega, by rw [est1, up2_same]; rfl, fun i hi => absurd hi (by omega), hP, hG, hO, hL, hS, lv_sub hl [0, 1, 2, 3, 4] rfl, rfl⟩
  rintro nn stk H locs ls ⟨k2, k3, st4, sl5, so6, g7, hm13, hv8_0, hv9_1, hv10_2, hv11_3, hv12_4, eg7, hv13_0, hP, hG, hO, hL, hS, hl, rfl⟩ ih14
  refine lv_iload hx hb dX0_readAll_10 (lv_at hl 0 rfl) ?_
  refine lv_bipush (v := 40) hx hb dX0_readAll_12 (by decide) ?_
  refine lv_icmp_gt (tgt := 82) hx hb dX0_readAll_14 (by decide) (fun c1 => ?_) (fun c1 => ?_)
  · have c1 : 40 < k2 := (nI_ltI (a := 40) (b := k2) (by omega) (by omega)).mp c1
    exact W.vret hx hb hr (fun t ht hW => ⟨⟨(st4, sl5, so6), rfl, ⟨hG, hL, hO, ⟨g7, eg7, by omega, hv13_0⟩⟩, xB.of ht hP⟩, hS.F ht⟩) hS.2.2 dX0_readAll_82
  · have c1 : ¬ 40 < k2 := fun hh => c1 ((nI_ltI (a := 40) (b := k2) (by omega) (by omega)).mpr hh)
    refine lv_iload_n hx hb dX0_readAll_17 rfl (lv_at hl 1 rfl) ?_
    refine lv_if_eq (tgt := 82) hx hb dX0_readAll_18 (by decide) (fun c2 => ?_) (fun c2 => ?_)
    · have c2 : k3 = 0 := (nI_eq (a := k3) (b := 0) (by omega) (by omega)).mp c2
      exact W.vret hx hb hr (fun t ht hW => ⟨⟨(st4, sl5, so6), rfl, ⟨hG, hL, hO, ⟨g7, eg7, by omega, hv13_0⟩⟩, xB.of ht hP⟩, hS.F ht⟩) hS.2.2 dX0_readAll_82
    · have c2 : ¬ k3 = 0 := fun hh => c2 ((nI_eq (a := k3) (b := 0) (by omega) (by omega)).mpr hh)
      refine lv_aload_n hx hb dX0_readAll_21 rfl (lv_at hl 3 rfl) ?_
      refine va_getN (host := "OffTheLead") (D := (dC, dI)) (ci := 9) (v := .int (st4 1 4)) (C := RX8) (T := TX8) (N := 15) hx hb hts ii_X0_readAll_X8 hown hK hP 1 (xw_is (r := 1) (by omega) (xc_fix (r := 1) (by omega))) rfl 4 (by decide) (va_Nw.use rfl (nf_X0_34 hEv)) (fun _ hh => hh) rfl dX0_readAll_22 ?_
      obtain ⟨z15, ez15⟩ : ∃ y : Int32, st4 1 4 = y := ⟨_, rfl⟩
      refine zz_top (v := z15) (by exact ez15) ?_
      refine lv_iconst (v := 3) hx hb dX0_readAll_25 (by decide) ?_
      refine lv_icmp_eq (tgt := 82) hx hb dX0_readAll_26 (by decide) (fun c3 => ?_) (fun c3 => ?_)
      · exact W.vret hx hb hr (fun t ht hW => ⟨⟨(st4, sl5, so6), rfl, ⟨hG, hL, hO, ⟨g7, eg7, by omega, hv13_0⟩⟩, xB.of ht hP⟩, hS.F ht⟩) hS.2.2 dX0_readAll_82
      · refine lv_aload_n hx hb dX0_readAll_29 rfl (lv_at hl 2 rfl) ?_
        refine lv_aload_n hx hb dX0_readAll_30 rfl (lv_at hl 3 rfl) ?_
        refine lv_aload_n hx hb dX0_readAll_31 rfl (lv_at hl 4 rfl) ?_
        refine va_calli (va_runV (As := [.ref (A 1), .ref (A (36 + 20 * 0))]) (rest := []) ⟨hx, hb, hml, hown, hts⟩ (x_X0_mayBegin l dC dI ad E hEE A C nb _ hN st4 sl5 so6 g7  hG.1 hO.1 (by rw [eg7]) (by omega)) (cwV 2 hts gX0_readAll_X0_mayBegin rfl rfl rfl (by decide +kernel) ⟨Nat.le_of_ble_eq_true rfl, Nat.le_of_ble_eq_true rfl⟩) ⟨fun a U g mk q => ⟨q.1, xPre.blind hEE q.2⟩, va_recv hK hP (ci := 1) (q0 := 4) rfl (xw_is (r := 4) (by omega) (xc_fix (r := 4) (by omega))), fun U hU hW => ⟨rfl, xPre.of hEE hP hK hE hS hU hW⟩⟩ rfl rfl hl.1 rfl (lv_room (Nat.le_of_ble_eq_true rfl)) dX0_readAll_32 ⟨Nat.le_of_ble_eq_true rfl, Nat.le_of_ble_eq_true rfl⟩) hS (fun q _ h => XA.le hS.1 q h) (XA.le hS.1) (fun r16 x t H locs ht hvm hw hB _ _ hS => ?_)
        have hP := xB.at ht hB
        clear hB ht hvm
        obtain ⟨st17, sl18, so19⟩ := x
        obtain ⟨hGst17, hLGst17, hOst17, hw⟩ := hw
        dsimp only at hGst17 hLGst17 hOst17 hw
        have hL : LGq sl sl18 := hL.tr hLGst17
        replace hOst17 := hOst17.symm
        subst hOst17
        have hP : va_P (dC, dI) vwCl (xw A C nb st17 sl18 so6) _ := hP
        have hG : XG [1, 2, 4, 5, 7, 8, 9, 12, 13, 14, 15] st st17 := hG.tr hGst17 (by decide)
        rcases hw with ⟨n20, rfl, hf21, hf22, hf23, hf24⟩ | rfl
        · refine lv_if_eq (tgt := 60) hx hb dX0_readAll_35 (by decide) (fun cc => absurd cc (by decide)) (fun _ => ?_)
          refine lv_aload_n hx hb dX0_readAll_38 rfl (lv_at hl 2 rfl) ?_
          refine lv_aload_n hx hb dX0_readAll_39 rfl (lv_at hl 3 rfl) ?_
          refine lv_aload_n hx hb dX0_readAll_40 rfl (lv_at hl 4 rfl) ?_
          refine va_calli (va_runV (As := [.ref (A 1), .ref (A (36 + 20 * 0))]) (rest := []) ⟨hx, hb, hml, hown, hts⟩ (x_X0_readLine l dC dI ad E hEE A C nb _ hN st17 sl18 so6 g7 n20  hG.1 hO.1 (by rw [hGst17.2 4 5 (by rw [(by decide : xcl 4 5 = 6)]; decide), eg7]) (by omega) (by rw [hf21]) (by omega) (by omega)) (cwV 2 hts gX0_readAll_X0_readLine rfl rfl rfl (by decide +kernel) ⟨Nat.le_of_ble_eq_true rfl, Nat.le_of_ble_eq_true rfl⟩) ⟨fun a U g mk q => ⟨q.1, xPre.blind hEE q.2⟩, va_recv hK hP (ci := 1) (q0 := 4) rfl (xw_is (r := 4) (by omega) (xc_fix (r := 4) (by omega))), fun U hU hW => ⟨rfl, xPre.of hEE hP hK hE hS hU hW⟩⟩ rfl rfl hl.1 rfl (lv_room (Nat.le_of_ble_eq_true rfl)) dX0_readAll_41 ⟨Nat.le_of_ble_eq_true rfl, Nat.le_of_ble_eq_true rfl⟩) hS (fun q _ h => XA.le hS.1 q h) (XA.le hS.1) (fun r25 x t H locs ht hvm hw hB _ _ hS => ?_)
          have hP := xB.at ht hB
          clear hB ht hvm
          obtain ⟨st26, sl27, so28⟩ := x
          obtain ⟨hGst26, hLGst26, hOst26, hw⟩ := hw
          dsimp only at hGst26 hLGst26 hOst26 hw
          have hL : LGq sl sl27 := hL.tr hLGst26
          have hO : OG ad [3, 4] so so28 := hO.tr hOst26 (by decide)
          have hP : va_P (dC, dI) vwCl (xw A C nb st26 sl27 so28) _ := hP
          have hG : XG [1, 2, 4, 5, 7, 8, 9, 12, 13, 14, 15] st st26 := hG.tr hGst26 (by decide)
          rcases hw with ⟨rfl, hf29, hf30, hf31⟩ | ⟨rfl, hf32, hf33⟩
          · refine lv_if_eq (tgt := 60) hx hb dX0_readAll_44 (by decide) (fun cc => absurd cc (by decide)) (fun _ => ?_)
            refine lv_aload_n hx hb dX0_readAll_47 rfl (lv_at hl 3 rfl) ?_
            refine lv_bipush (v := 59) hx hb dX0_readAll_48 (by decide) ?_
            refine va_calli (va_runV (As := [.int 59]) (rest := []) ⟨hx, hb, hml, hown, hts⟩ (x_X8_takeMark l dC dI ad E hEE A C nb _ hN st26 sl27 so28 59  hG.1 hO.1) (cwV 1 hts gX0_readAll_X8_takeMark rfl rfl rfl (by decide +kernel) ⟨Nat.le_of_ble_eq_true rfl, Nat.le_of_ble_eq_true rfl⟩) ⟨fun a U g mk q => ⟨q.1, xPre.blind hEE q.2⟩, va_recv hK hP (ci := 9) (q0 := 1) rfl (xw_is (r := 1) (by omega) (xc_fix (r := 1) (by omega))), fun U hU hW => ⟨rfl, xPre.of hEE hP hK hE hS hU hW⟩⟩ rfl rfl hl.1 rfl (lv_room (Nat.le_of_ble_eq_true rfl)) dX0_readAll_50 ⟨Nat.le_of_ble_eq_true rfl, Nat.le_of_ble_eq_true rfl⟩) hS (fun q _ h => XA.le hS.1 q h) (XA.le hS.1) (fun r34 x t H locs ht hvm hw hB _ _ hS => ?_)
            have hP := xB.at ht hB
            clear hB ht hvm
            obtain ⟨st35, sl36, so37⟩ := x
            obtain ⟨hGst35, hLGst35, hOst35, hw⟩ := hw
            dsimp only at hGst35 hLGst35 hOst35 hw
            have hL : LGq sl sl36 := hL.tr hLGst35
            have hO : OG ad [3, 4] so so37 := hO.tr hOst35 (by decide)
            have hP : va_P (dC, dI) vwCl (xw A C nb st35 sl36 so37) _ := hP
            have hG : XG [1, 2, 4, 5, 7, 8, 9, 12, 13, 14, 15] st st35 := hG.tr hGst35 (by decide)
            rcases hw with rfl | ⟨rfl, hf38⟩
            · refine lv_if_eq (tgt := 60) hx hb dX0_readAll_53 (by decide) (fun cc => absurd cc (by decide)) (fun _ => ?_)
              refine lv_iconst (v := 1) hx hb dX0_readAll_56 (by decide) ?_
              refine lv_goto (tgt := 61) hx hb dX0_readAll_57 (by decide) ?_
              refine lv_istore_n (lv' := [(3, .int 1), (4, .int (nI k2)), (0, .ref (A 4)), (1, .ref (A 1)), (2, .ref (A (36 + 20 * 0)))]) hx hb dX0_readAll_61 rfl hl (by decide) rfl (fun ls hl => ?_)
              refine lv_iload_n hx hb dX0_readAll_62 rfl (lv_at hl 0 rfl) ?_
              refine lv_if_eq (tgt := 76) hx hb dX0_readAll_63 (by decide) (fun cc => absurd cc (by decide)) (fun _ => ?_)
              refine lv_aload_n hx hb dX0_readAll_66 rfl (lv_at hl 2 rfl) ?_
              refine lv_dup hx hb dX0_readAll_67 rfl ?_
              refine va_get (D := (dC, dI)) (ci := 1) (v := .int (st35 4 5)) (C := RX0) (T := TX0) (N := 7) hx hb hts ii_X0_readAll_X0 hown hK hP 4 (xw_is (r := 4) (by omega) (xc_fix (r := 4) (by omega))) rfl 5 (by decide) (hts _ mm_X0_readAll_1) (fun _ hh => hh) rfl dX0_readAll_68 ?_
              refine zz_top (v := (nI g7)) (by show st35 4 5 = _; rw [hGst35.2 4 5 (by rw [(by decide : xcl 4 5 = 6)]; decide), hGst26.2 4 5 (by rw [(by decide : xcl 4 5 = 6)]; decide), hGst17.2 4 5 (by rw [(by decide : xcl 4 5 = 6)]; decide), eg7]) ?_
              refine lv_iconst (v := 1) hx hb dX0_readAll_71 (by decide) ?_
              refine lv_iadd hx hb dX0_readAll_72 ?_
              refine zz_top (v := nI (g7 + 1)) (nI_add g7 1) ?_
              refine va_put (D := (dC, dI)) (ci := 1) (v := .int (nI (g7 + 1))) (ty := .int) (C := RX0) (T := TX0) (N := 7) hx hb hts ii_X0_readAll_X0 tyX0 tyX0_ok nmX0 hown hK hP (xD hN _ _ _ _ _ _) hS 4 (xw_is (r := 4) (by omega) (xc_fix (r := 4) (by omega))) rfl 5 (by decide) (hts _ mm_X0_readAll_1) (fun _ hh => hh) rfl (by decide +kernel) rfl rfl (Nat.le_of_ble_eq_true rfl) dX0_readAll_73 (fun H locs hP _ hS => ?_)
              have hP : va_P (dC, dI) vwCl (xw A C nb (up2 st35 4 5 (nI (g7 + 1))) sl36 so37) H := by rw [← xset (r := 4) (k := 5) (v := (nI (g7 + 1))) (xc_fix (r := 4) (by omega))]; exact hP
              obtain ⟨st39, est39⟩ : ∃ y, y = up2 st35 4 5 (nI (g7 + 1)) := ⟨_, rfl⟩
              have hG : XG [1, 2, 4, 5, 7, 8, 9, 12, 13, 14, 15] st st39 := by rw [est39]; exact hG.up (xn (n := (g7 + 1)) (b := 41) (by decide : xrg 4 5 = 41) (by omega)) (xpn (c := 6) (by decide : xcl 4 5 = 6) (by decide))
              rw [← est39] at hP
              refine lv_iinc (v := (nI (k2 + 1))) (lv' := [(4, .int (nI (k2 + 1))), (3, .int 1), (0, .ref (A 4)), (1, .ref (A 1)), (2, .ref (A (36 + 20 * 0)))]) hx hb dX0_readAll_76 hl (k := 1) rfl (nI_add k2 1) (by decide) rfl (fun ls hl => ?_)
              refine lv_goto (tgt := 10) hx hb dX0_readAll_79 (by decide) ?_
              exact ih14 (42 - (k2 + 1)) _ _ _ _ (by omega) ⟨(k2 + 1), 1, st39, sl36, so37, (g7 + 1), rfl, by omega, by omega, by omega, by omega, by omega, by rw [est39, up2_same], BKs.snoc hv13_0 (fun jj hk => by show st39 6 jj = st4 6 jj; rw [est39, up2_ne (r := 4) (k := 5) (a := 6) (j := jj) _ _ (by omega), hGst35.2 6 jj (by rw [(by unfold xcl; rfl : xcl 6 jj = 3)]; decide), hf30 jj hk, hGst17.2 6 jj (by rw [(by unfold xcl; rfl : xcl 6 jj = 3)]; decide)]) (fun jj hk => by show so37 5 jj = so6 5 jj; rw [hOst35.2 5 jj (by decide), hf31 jj hk]) (BK1.eq hf29 (by show st39 6 g7 = _; rw [est39, up2_ne (r := 4) (k := 5) (a := 6) (j := g7) _ _ (by omega), hGst35.2 6 g7 (by rw [(by unfold xcl; rfl : xcl 6 g7 = 3)]; decide)]) (by show so37 5 g7 = _; rw [hOst35.2 5 g7 (by decide)])), hP, hG, hO, hL, hS, lv_sub hl [0, 1, 2, 3, 4] rfl, rfl⟩
            · refine lv_if_eq (tgt := 60) hx hb dX0_readAll_53 (by decide) (fun _ => ?_) (fun cc => absurd (by decide) cc)
              refine lv_iconst (v := 0) hx hb dX0_readAll_60 (by decide) ?_
              refine lv_istore_n (lv' := [(3, .int 0), (4, .int (nI k2)), (0, .ref (A 4)), (1, .ref (A 1)), (2, .ref (A (36 + 20 * 0)))]) hx hb dX0_readAll_61 rfl hl (by decide) rfl (fun ls hl => ?_)
              refine lv_iload_n hx hb dX0_readAll_62 rfl (lv_at hl 0 rfl) ?_
              refine lv_if_eq (tgt := 76) hx hb dX0_readAll_63 (by decide) (fun _ => ?_) (fun cc => absurd (by decide) cc)
              refine lv_iinc (v := (nI (k2 + 1))) (lv' := [(4, .int (nI (k2 + 1))), (3, .int 0), (0, .ref (A 4)), (1, .ref (A 1)), (2, .ref (A (36 + 20 * 0)))]) hx hb dX0_readAll_76 hl (k := 1) rfl (nI_add k2 1) (by decide) rfl (fun ls hl => ?_)
              refine lv_goto (tgt := 10) hx hb dX0_readAll_79 (by decide) ?_
              exact ih14 (42 - (k2 + 1)) _ _ _ _ (by omega) ⟨(k2 + 1), 0, st35, sl36, so37, g7, rfl, by omega, by omega, by omega, by omega, by omega, by rw [hGst35.2 4 5 (by rw [(by decide : xcl 4 5 = 6)]; decide), hGst26.2 4 5 (by rw [(by decide : xcl 4 5 = 6)]; decide), hGst17.2 4 5 (by rw [(by decide : xcl 4 5 = 6)]; decide), eg7], BKs.eqf hv13_0 (fun jj hk => by show st35 6 jj = st4 6 jj; rw [hGst35.2 6 jj (by rw [(by unfold xcl; rfl : xcl 6 jj = 3)]; decide), hf30 jj hk, hGst17.2 6 jj (by rw [(by unfold xcl; rfl : xcl 6 jj = 3)]; decide)]) (fun jj hk => by show so37 5 jj = so6 5 jj; rw [hOst35.2 5 jj (by decide), hf31 jj hk]), hP, hG, hO, hL, hS, lv_sub hl [0, 1, 2, 3, 4] rfl, rfl⟩
          · refine lv_if_eq (tgt := 60) hx hb dX0_readAll_44 (by decide) (fun _ => ?_) (fun cc => absurd (by decide) cc)
            refine lv_iconst (v := 0) hx hb dX0_readAll_60 (by decide) ?_
            refine lv_istore_n (lv' := [(3, .int 0), (4, .int (nI k2)), (0, .ref (A 4)), (1, .ref (A 1)), (2, .ref (A (36 + 20 * 0)))]) hx hb dX0_readAll_61 rfl hl (by decide) rfl (fun ls hl => ?_)
            refine lv_iload_n hx hb dX0_readAll_62 rfl (lv_at hl 0 rfl) ?_
            refine lv_if_eq (tgt := 76) hx hb dX0_readAll_63 (by decide) (fun _ => ?_) (fun cc => absurd (by decide) cc)
            refine lv_iinc (v := (nI (k2 + 1))) (lv' := [(4, .int (nI (k2 + 1))), (3, .int 0), (0, .ref (A 4)), (1, .ref (A 1)), (2, .ref (A (36 + 20 * 0)))]) hx hb dX0_readAll_76 hl (k := 1) rfl (nI_add k2 1) (by decide) rfl (fun ls hl => ?_)
            refine lv_goto (tgt := 10) hx hb dX0_readAll_79 (by decide) ?_
            exact ih14 (42 - (k2 + 1)) _ _ _ _ (by omega) ⟨(k2 + 1), 0, st26, sl27, so28, g7, rfl, by omega, by omega, by omega, by omega, by omega, by rw [hGst26.2 4 5 (by rw [(by decide : xcl 4 5 = 6)]; decide), hGst17.2 4 5 (by rw [(by decide : xcl 4 5 = 6)]; decide), eg7], BKs.eqf hv13_0 (fun jj hk => by show st26 6 jj = st4 6 jj; rw [hf32 jj hk, hGst17.2 6 jj (by rw [(by unfold xcl; rfl : xcl 6 jj = 3)]; decide)]) (fun jj hk => by show so28 5 jj = so6 5 jj; rw [hf33 jj hk]), hP, hG, hO, hL, hS, lv_sub hl [0, 1, 2, 3, 4] rfl, rfl⟩
        · refine lv_if_eq (tgt := 60) hx hb dX0_readAll_35 (by decide) (fun _ => ?_) (fun cc => absurd (by decide) cc)
          refine lv_iconst (v := 0) hx hb dX0_readAll_60 (by decide) ?_
          refine lv_istore_n (lv' := [(3, .int 0), (4, .int (nI k2)), (0, .ref (A 4)), (1, .ref (A 1)), (2, .ref (A (36 + 20 * 0)))]) hx hb dX0_readAll_61 rfl hl (by decide) rfl (fun ls hl => ?_)
          refine lv_iload_n hx hb dX0_readAll_62 rfl (lv_at hl 0 rfl) ?_
          refine lv_if_eq (tgt := 76) hx hb dX0_readAll_63 (by decide) (fun _ => ?_) (fun cc => absurd (by decide) cc)
          refine lv_iinc (v := (nI (k2 + 1))) (lv' := [(4, .int (nI (k2 + 1))), (3, .int 0), (0, .ref (A 4)), (1, .ref (A 1)), (2, .ref (A (36 + 20 * 0)))]) hx hb dX0_readAll_76 hl (k := 1) rfl (nI_add k2 1) (by decide) rfl (fun ls hl => ?_)
          refine lv_goto (tgt := 10) hx hb dX0_readAll_79 (by decide) ?_
          exact ih14 (42 - (k2 + 1)) _ _ _ _ (by omega) ⟨(k2 + 1), 0, st17, sl18, so6, g7, rfl, by omega, by omega, by omega, by omega, by omega, by rw [hGst17.2 4 5 (by rw [(by decide : xcl 4 5 = 6)]; decide), eg7], BKs.eqf hv13_0 (fun jj hk => by show st17 6 jj = st4 6 jj; rw [hGst17.2 6 jj (by rw [(by unfold xcl; rfl : xcl 6 jj = 3)]; decide)]) (fun jj hk => by show so6 5 jj = so6 5 jj; rfl), hP, hG, hO, hL, hS, lv_sub hl [0, 1, 2, 3, 4] rfl, rfl⟩
set_option maxHeartbeats 4000000 in
set_option maxRecDepth 100000 in
theorem x_X0_whyNot (l : Launch) (dC : Nat → ClassId) (dI : Nat → Nat → Nat) (ad : Nat → Nat) (E : EP) (hEE : EC ad E) (A : Nat → Nat) (C : Nat → ClassId) (nb sz : Nat) (hN : XN A) (st : Nat → Nat → Int32) (sl : Nat → Nat → Int64) (so : Nat → XR) (va : Int32) (vb : Int32) (hI : XI st) : Met l yX0_whyNot wsX0_whyNot ({ frames := 0, cells := 0, slots := 0, locals := 0 }) (va_Pc [.int va, .int vb] (xPre E dC dI A C nb sz st sl so)) (va_Qi (fun (r : Int32) (x : XT) => x = (st, sl, so) ∧ (True)) (xB dC dI A C nb) (XA A sz)) 0 0 (XA A sz) := by
  refine Met.ofW (cc := cX0_whyNot) (maxL := 2) (ret := (some .int)) (by decide) rfl ?_
  intro p e s m args below meth c s₁ B hml hv
  obtain ⟨rfl, hsz, hP, hK, hE⟩ := hv
  have hx := B.exec
  have hb := B.bytes
  have hr := B.returns
  have hts := atoms_spec (ws := wsX0_whyNot) B.pre
  have hown : s.vm.findClass RX0 = some m.cls := findClass_of_methodNamed B.named
  subst hsz
  have hEv := hEE.1 _ _ _ hE
  have hS : va_S (XA A s.heap.size) s.heap s.heap [] := va_S.rf
  have hG : XG [1, 2, 3, 4, 5, 6, 7, 8, 9, 10, 11, 12, 13, 14, 15] st st := XG.rf hI
  have hl := lv_entry ([.int va, .int vb]) (n := 2) (Nat.le_of_ble_eq_true rfl)
  rw [lg_entry_eq]
  generalize (lg_sl ([.int va, .int vb]) ++ List.replicate (2 - (lg_sl ([.int va, .int vb])).length) Slot.unset).toArray = ls at hl ⊢
  have hl : lv_has ls 2 [(0, .int va), (1, .int vb)] := hl
  refine lv_iload_n hx hb dX0_whyNot_0 rfl (lv_at hl 1 rfl) ?_
  refine lv_if_ne (tgt := 8) hx hb dX0_whyNot_1 (by decide) (fun c1 => ?_) (fun c1 => ?_)
  · refine lv_iload_n hx hb dX0_whyNot_8 rfl (lv_at hl 0 rfl) ?_
    refine lv_iload_n hx hb dX0_whyNot_9 rfl (lv_at hl 1 rfl) ?_
    refine lv_iadd hx hb dX0_whyNot_10 ?_
    refine lv_topi (fun z1 ez1 => ?_)
    clear ez1
    exact W.iret (v := z1) hx hb hr (fun t ht hW => ⟨⟨z1, (st, sl, so), rfl, ⟨rfl, trivial⟩, xB.of ht hP⟩, hS.F ht⟩) hS.2.2 dX0_whyNot_11
  · refine lv_iconst (v := 0) hx hb dX0_whyNot_4 (by decide) ?_
    refine lv_goto (tgt := 11) hx hb dX0_whyNot_5 (by decide) ?_
    exact W.iret (v := 0) hx hb hr (fun t ht hW => ⟨⟨0, (st, sl, so), rfl, ⟨rfl, trivial⟩, xB.of ht hP⟩, hS.F ht⟩) hS.2.2 dX0_whyNot_11
set_option maxHeartbeats 4000000 in
set_option maxRecDepth 100000 in
theorem x_X0_liveLine (l : Launch) (dC : Nat → ClassId) (dI : Nat → Nat → Nat) (ad : Nat → Nat) (E : EP) (hEE : EC ad E) (A : Nat → Nat) (C : Nat → ClassId) (nb sz : Nat) (hN : XN A) (st : Nat → Nat → Int32) (sl : Nat → Nat → Int64) (so : Nat → XR) (va : Nat) (i : Nat) (hva : va < 40) (hi : i < 13) (hI : XI st) (hOI : OI ad so) (hbk : BK1 ad st so va) : Met l yX0_liveLine wsX0_liveLine ({ frames := 5, cells := 0, slots := 0, locals := 123 }) (va_Pc [.ref (A 4), .int (nI va), .ref (A (36 + 20 * i)), .ref (A 10)] (xPre E dC dI A C nb sz st sl so)) (va_Qi (fun (r : Int32) (x : XT) => XG [1, 2, 3, 4, 5, 6, 7, 8, 9, 10, 11, 12, 13, 14, 15] st x.1 ∧ LGq sl x.2.1 ∧ x.2.2 = so ∧ (True)) (xB dC dI A C nb) (XA A sz)) 0 0 (XA A sz) := by
  refine Met.ofW (cc := cX0_liveLine) (maxL := 5) (ret := (some .int)) (by decide) rfl ?_
  intro p e s m args below meth c s₁ B hml hv
  obtain ⟨rfl, hsz, hP, hK, hE⟩ := hv
  have hx := B.exec
  have hb := B.bytes
  have hr := B.returns
  have hts := atoms_spec (ws := wsX0_liveLine) B.pre
  have hown : s.vm.findClass RX0 = some m.cls := findClass_of_methodNamed B.named
  subst hsz
  have hEv := hEE.1 _ _ _ hE
  have hS : va_S (XA A s.heap.size) s.heap s.heap [] := va_S.rf
  have hG : XG [1, 2, 3, 4, 5, 6, 7, 8, 9, 10, 11, 12, 13, 14, 15] st st := XG.rf hI
  have hl := lv_entry ([.ref (A 4), .int (nI va), .ref (A (36 + 20 * i)), .ref (A 10)]) (n := 5) (Nat.le_of_ble_eq_true rfl)
  rw [lg_entry_eq]
  generalize (lg_sl ([.ref (A 4), .int (nI va), .ref (A (36 + 20 * i)), .ref (A 10)]) ++ List.replicate (5 - (lg_sl ([.ref (A 4), .int (nI va), .ref (A (36 + 20 * i)), .ref (A 10)])).length) Slot.unset).toArray = ls at hl ⊢
  have hl : lv_has ls 5 [(0, .ref (A 4)), (1, .int (nI va)), (2, .ref (A (36 + 20 * i))), (3, .ref (A 10))] := hl
  have hL : LGq sl sl := LGq.rf
  refine lv_aload_n hx hb dX0_liveLine_0 rfl (lv_at hl 0 rfl) ?_
  refine va_get (D := (dC, dI)) (ci := 1) (v := .ref (A 5)) (C := RX0) (T := TX0) (N := 7) hx hb hts ii_X0_liveLine_X0 hown hK hP 4 (xw_is (r := 4) (by omega) (xc_fix (r := 4) (by omega))) rfl 0 (by decide) (hts _ mm_X0_liveLine_1) (fun _ hh => hh) rfl dX0_liveLine_1 ?_
  refine lv_iload_n hx hb dX0_liveLine_4 rfl (lv_at hl 1 rfl) ?_
  refine va_aldq hx hb hK hP 5 5 (xw_is (r := 5) (by omega) (xc_fix (r := 5) (by omega))) (xt_is (r := 5) (by omega) rfl) (i := (nI va)) (vp_in_nI (by omega) (by decide)) dX0_liveLine_5 ?_
  refine zz_topq (r := so 5 va) (by rw [nI_clamp (by omega)]) ?_
  rcases hOI.1 5 va with ej1 | ⟨j1, hj1, ej1⟩
  · refine zz_topq (r := none) (by exact ej1) ?_
    refine lv_astoreN (lv' := [(4, .null), (0, .ref (A 4)), (1, .int (nI va)), (2, .ref (A (36 + 20 * i))), (3, .ref (A 10))]) hx hb dX0_liveLine_6 hl (by decide) rfl (fun ls hl => ?_)
    refine lv_aloadN hx hb dX0_liveLine_8 (lv_at hl 0 rfl) ?_
    refine va_gets (v := .ref (ad 6)) hx hb (EV.word hEv (i := 6) (by decide)) hS hown (hts _ mm_X0_liveLine_2) (fun _ hh => hh) dX0_liveLine_10 ?_
    refine lv_acmp_ne (rx := none) (ry := (some (ad 6))) (tgt := 43) hx hb dX0_liveLine_13 (by decide) (fun _ => ?_) (fun hh => nomatch hh)
    refine lv_aloadN hx hb dX0_liveLine_43 (lv_at hl 0 rfl) ?_
    refine va_gets (v := .ref (ad 7)) hx hb (EV.word hEv (i := 7) (by decide)) hS hown (hts _ mm_X0_liveLine_6) (fun _ hh => hh) dX0_liveLine_45 ?_
    refine lv_acmp_ne (rx := none) (ry := (some (ad 7))) (tgt := 79) hx hb dX0_liveLine_48 (by decide) (fun _ => ?_) (fun hh => nomatch hh)
    refine lv_aloadN hx hb dX0_liveLine_79 (lv_at hl 0 rfl) ?_
    refine va_gets (v := .ref (ad 8)) hx hb (EV.word hEv (i := 8) (by decide)) hS hown (hts _ mm_X0_liveLine_7) (fun _ hh => hh) dX0_liveLine_81 ?_
    refine lv_acmp_ne (rx := none) (ry := (some (ad 8))) (tgt := 98) hx hb dX0_liveLine_84 (by decide) (fun _ => ?_) (fun hh => nomatch hh)
    refine lv_aloadN hx hb dX0_liveLine_98 (lv_at hl 0 rfl) ?_
    refine va_gets (v := .ref (ad 5)) hx hb (EV.word hEv (i := 5) (by decide)) hS hown (hts _ mm_X0_liveLine_8) (fun _ hh => hh) dX0_liveLine_100 ?_
    refine lv_acmp_ne (rx := none) (ry := (some (ad 5))) (tgt := 122) hx hb dX0_liveLine_103 (by decide) (fun _ => ?_) (fun hh => nomatch hh)
    refine lv_aloadN hx hb dX0_liveLine_122 (lv_at hl 0 rfl) ?_
    refine va_gets (v := .ref (ad 9)) hx hb (EV.word hEv (i := 9) (by decide)) hS hown (hts _ mm_X0_liveLine_10) (fun _ hh => hh) dX0_liveLine_124 ?_
    refine lv_acmp_eq (rx := none) (ry := (some (ad 9))) (tgt := 138) hx hb dX0_liveLine_127 (by decide) (fun hh => nomatch hh) (fun _ => ?_)
    refine lv_aloadN hx hb dX0_liveLine_130 (lv_at hl 0 rfl) ?_
    refine va_gets (v := .ref (ad 10)) hx hb (EV.word hEv (i := 10) (by decide)) hS hown (hts _ mm_X0_liveLine_11) (fun _ hh => hh) dX0_liveLine_132 ?_
    refine lv_acmp_ne (rx := none) (ry := (some (ad 10))) (tgt := 167) hx hb dX0_liveLine_135 (by decide) (fun _ => ?_) (fun hh => nomatch hh)
    refine lv_aloadN hx hb dX0_liveLine_167 (lv_at hl 0 rfl) ?_
    refine va_gets (v := .ref (ad 11)) hx hb (EV.word hEv (i := 11) (by decide)) hS hown (hts _ mm_X0_liveLine_12) (fun _ hh => hh) dX0_liveLine_169 ?_
    refine lv_acmp_ne (rx := none) (ry := (some (ad 11))) (tgt := 209) hx hb dX0_liveLine_172 (by decide) (fun _ => ?_) (fun hh => nomatch hh)
    refine lv_aload_n hx hb dX0_liveLine_209 rfl (lv_at hl 1 rfl) ?_
    refine va_get (D := (dC, dI)) (ci := 1) (v := .ref (A 6)) (C := RX0) (T := TX0) (N := 7) hx hb hts ii_X0_liveLine_X0 hown hK hP 4 (xw_is (r := 4) (by omega) (xc_fix (r := 4) (by omega))) rfl 1 (by decide) (hts _ mm_X0_liveLine_9) (fun _ hh => hh) rfl dX0_liveLine_210 ?_
    refine lv_iload_n hx hb dX0_liveLine_213 rfl (lv_at hl 2 rfl) ?_
    refine va_iald hx hb hK hP 6 6 (xw_is (r := 6) (by omega) (xc_fix (r := 6) (by omega))) (xt_is (r := 6) (by omega) rfl) (i := (nI va)) (vp_in_nI (by omega) (by decide)) dX0_liveLine_214 ?_
    obtain ⟨z2, ez2⟩ : ∃ y : Int32, st 6 va = y := ⟨_, rfl⟩
    refine zz_top (v := z2) (by rw [nI_clamp (by omega)]; exact ez2) ?_
    refine lv_sipush (v := 400) hx hb dX0_liveLine_215 (by decide) ?_
    refine lv_aload_n hx hb dX0_liveLine_218 rfl (lv_at hl 3 rfl) ?_
    refine va_getN (host := "OffTheLead") (D := (dC, dI)) (ci := 5) (v := .int (st (36 + 20 * i) 9)) (C := RX4) (T := TX4) (N := 12) hx hb hts ii_X0_liveLine_X4 hown hK hP (36 + 20 * i) (xw_is (r := (36 + 20 * i)) (by omega) (xc_pk (i := i) (o := 0) (by omega) (by omega))) rfl 9 (by decide) (va_Nw.use rfl (nf_X0_160 hEv)) (fun _ hh => hh) rfl dX0_liveLine_219 ?_
    obtain ⟨z3, ez3⟩ : ∃ y : Int32, st (36 + 20 * i) 9 = y := ⟨_, rfl⟩
    refine zz_top (v := z3) (by exact ez3) ?_
    refine lv_isub hx hb dX0_liveLine_222 ?_
    refine lv_topi (fun z4 ez4 => ?_)
    clear ez4
    refine lv_icmp_le (tgt := 229) hx hb dX0_liveLine_223 (by decide) (fun c8 => ?_) (fun c8 => ?_)
    · refine lv_aload_n hx hb dX0_liveLine_229 rfl (lv_at hl 4 rfl) ?_
      refine lv_aload_n hx hb dX0_liveLine_230 rfl (lv_at hl 3 rfl) ?_
      refine lv_aload_n hx hb dX0_liveLine_231 rfl (lv_at hl 1 rfl) ?_
      refine va_get (D := (dC, dI)) (ci := 1) (v := .ref (A 6)) (C := RX0) (T := TX0) (N := 7) hx hb hts ii_X0_liveLine_X0 hown hK hP 4 (xw_is (r := 4) (by omega) (xc_fix (r := 4) (by omega))) rfl 1 (by decide) (hts _ mm_X0_liveLine_9) (fun _ hh => hh) rfl dX0_liveLine_232 ?_
      refine lv_iload_n hx hb dX0_liveLine_235 rfl (lv_at hl 2 rfl) ?_
      refine va_iald hx hb hK hP 6 6 (xw_is (r := 6) (by omega) (xc_fix (r := 6) (by omega))) (xt_is (r := 6) (by omega) rfl) (i := (nI va)) (vp_in_nI (by omega) (by decide)) dX0_liveLine_236 ?_
      refine zz_top (v := z2) (by rw [nI_clamp (by omega)]; show st 6 va = _; rw [ez2]) ?_
      refine lv_aload_n hx hb dX0_liveLine_237 rfl (lv_at hl 1 rfl) ?_
      refine va_get (D := (dC, dI)) (ci := 1) (v := .ref (A 6)) (C := RX0) (T := TX0) (N := 7) hx hb hts ii_X0_liveLine_X0 hown hK hP 4 (xw_is (r := 4) (by omega) (xc_fix (r := 4) (by omega))) rfl 1 (by decide) (hts _ mm_X0_liveLine_9) (fun _ hh => hh) rfl dX0_liveLine_238 ?_
      refine lv_iload_n hx hb dX0_liveLine_241 rfl (lv_at hl 2 rfl) ?_
      refine va_iald hx hb hK hP 6 6 (xw_is (r := 6) (by omega) (xc_fix (r := 6) (by omega))) (xt_is (r := 6) (by omega) rfl) (i := (nI va)) (vp_in_nI (by omega) (by decide)) dX0_liveLine_242 ?_
      refine zz_top (v := z2) (by rw [nI_clamp (by omega)]; show st 6 va = _; rw [ez2]) ?_
      refine va_calli (va_runV (As := [.ref (A (36 + 20 * i)), .int z2, .int z2]) (rest := []) ⟨hx, hb, hml, hown, hts⟩ (x_X1_live l dC dI ad E hEE A C nb _ hN st sl so i z2 z2 (by omega) hG.1) (cwV 3 hts gX0_liveLine_X1_live rfl rfl rfl (by decide +kernel) ⟨Nat.le_of_ble_eq_true rfl, Nat.le_of_ble_eq_true rfl⟩) ⟨fun a U g mk q => ⟨q.1, xPre.blind hEE q.2⟩, va_recv hK hP (ci := 2) (q0 := 10) rfl (xw_is (r := 10) (by omega) (xc_fix (r := 10) (by omega))), fun U hU hW => ⟨rfl, xPre.of hEE hP hK hE hS hU hW⟩⟩ rfl rfl hl.1 rfl (lv_room (Nat.le_of_ble_eq_true rfl)) dX0_liveLine_243 ⟨Nat.le_of_ble_eq_true rfl, Nat.le_of_ble_eq_true rfl⟩) hS (fun q _ h => XA.le hS.1 q h) (XA.le hS.1) (fun r5 x t H locs ht hvm hw hB _ _ hS => ?_)
      have hP := xB.at ht hB
      clear hB ht hvm
      obtain ⟨st6, sl7, so8⟩ := x
      obtain ⟨hGst6, hLGst6, hOst6, hw⟩ := hw
      dsimp only at hGst6 hLGst6 hOst6 hw
      have hL : LGq sl sl7 := hL.tr hLGst6
      replace hOst6 := hOst6.symm
      subst hOst6
      have hP : va_P (dC, dI) vwCl (xw A C nb st6 sl7 so) _ := hP
      have hG : XG [1, 2, 3, 4, 5, 6, 7, 8, 9, 10, 11, 12, 13, 14, 15] st st6 := hG.tr hGst6 (by decide)
      clear hw
      refine lv_pop hx hb dX0_liveLine_246 rfl ?_
      refine lv_iconst (v := 0) hx hb dX0_liveLine_247 (by decide) ?_
      exact W.iret (v := 0) hx hb hr (fun t ht hW => ⟨⟨0, (st6, sl7, so), rfl, ⟨hG, hL, rfl, trivial⟩, xB.of ht hP⟩, hS.F ht⟩) hS.2.2 dX0_liveLine_248
    · refine lv_bipush (v := 51) hx hb dX0_liveLine_226 (by decide) ?_
      exact W.iret (v := 51) hx hb hr (fun t ht hW => ⟨⟨51, (st, sl, so), rfl, ⟨hG, hL, rfl, trivial⟩, xB.of ht hP⟩, hS.F ht⟩) hS.2.2 dX0_liveLine_228
  · refine zz_topq (r := (some (ad j1))) (by exact ej1) ?_
    refine lv_astore (lv' := [(4, .ref (ad j1)), (0, .ref (A 4)), (1, .int (nI va)), (2, .ref (A (36 + 20 * i))), (3, .ref (A 10))]) hx hb dX0_liveLine_6 hl (by decide) rfl (fun ls hl => ?_)
    refine lv_aload hx hb dX0_liveLine_8 (lv_at hl 0 rfl) ?_
    refine va_gets (v := .ref (ad 6)) hx hb (EV.word hEv (i := 6) (by decide)) hS hown (hts _ mm_X0_liveLine_2) (fun _ hh => hh) dX0_liveLine_10 ?_
    refine lv_acmp_ne (rx := (some (ad j1))) (ry := (some (ad 6))) (tgt := 43) hx hb dX0_liveLine_13 (by decide) (fun c9 => ?_) (fun c9 => ?_)
    · have c9 : ¬ j1 = 6 := fun hh => c9 ((EV.eqw hEv (i := j1) (j := 6) (by omega) (by omega)).mpr hh)
      refine lv_aload hx hb dX0_liveLine_43 (lv_at hl 0 rfl) ?_
      refine va_gets (v := .ref (ad 7)) hx hb (EV.word hEv (i := 7) (by decide)) hS hown (hts _ mm_X0_liveLine_6) (fun _ hh => hh) dX0_liveLine_45 ?_
      refine lv_acmp_ne (rx := (some (ad j1))) (ry := (some (ad 7))) (tgt := 79) hx hb dX0_liveLine_48 (by decide) (fun c10 => ?_) (fun c10 => ?_)
      · have c10 : ¬ j1 = 7 := fun hh => c10 ((EV.eqw hEv (i := j1) (j := 7) (by omega) (by omega)).mpr hh)
        refine lv_aload hx hb dX0_liveLine_79 (lv_at hl 0 rfl) ?_
        refine va_gets (v := .ref (ad 8)) hx hb (EV.word hEv (i := 8) (by decide)) hS hown (hts _ mm_X0_liveLine_7) (fun _ hh => hh) dX0_liveLine_81 ?_
        refine lv_acmp_ne (rx := (some (ad j1))) (ry := (some (ad 8))) (tgt := 98) hx hb dX0_liveLine_84 (by decide) (fun c11 => ?_) (fun c11 => ?_)
        · have c11 : ¬ j1 = 8 := fun hh => c11 ((EV.eqw hEv (i := j1) (j := 8) (by omega) (by omega)).mpr hh)
          refine lv_aload hx hb dX0_liveLine_98 (lv_at hl 0 rfl) ?_
          refine va_gets (v := .ref (ad 5)) hx hb (EV.word hEv (i := 5) (by decide)) hS hown (hts _ mm_X0_liveLine_8) (fun _ hh => hh) dX0_liveLine_100 ?_
          refine lv_acmp_ne (rx := (some (ad j1))) (ry := (some (ad 5))) (tgt := 122) hx hb dX0_liveLine_103 (by decide) (fun c12 => ?_) (fun c12 => ?_)
          · have c12 : ¬ j1 = 5 := fun hh => c12 ((EV.eqw hEv (i := j1) (j := 5) (by omega) (by omega)).mpr hh)
            refine lv_aload hx hb dX0_liveLine_122 (lv_at hl 0 rfl) ?_
            refine va_gets (v := .ref (ad 9)) hx hb (EV.word hEv (i := 9) (by decide)) hS hown (hts _ mm_X0_liveLine_10) (fun _ hh => hh) dX0_liveLine_124 ?_
            refine lv_acmp_eq (rx := (some (ad j1))) (ry := (some (ad 9))) (tgt := 138) hx hb dX0_liveLine_127 (by decide) (fun c13 => ?_) (fun c13 => ?_)
            · have c13 : j1 = 9 := (EV.eqw hEv (i := j1) (j := 9) (by omega) (by omega)).mp c13
              obtain ⟨m9, hm9, em9⟩ := hbk.1 (Or.inl (by rw [ej1, c13]))
              refine lv_bipush (v := 30) hx hb dX0_liveLine_138 (by decide) ?_
              refine lv_aload_n hx hb dX0_liveLine_140 rfl (lv_at hl 3 rfl) ?_
              refine lv_aload_n hx hb dX0_liveLine_141 rfl (lv_at hl 1 rfl) ?_
              refine va_get (D := (dC, dI)) (ci := 1) (v := .ref (A 6)) (C := RX0) (T := TX0) (N := 7) hx hb hts ii_X0_liveLine_X0 hown hK hP 4 (xw_is (r := 4) (by omega) (xc_fix (r := 4) (by omega))) rfl 1 (by decide) (hts _ mm_X0_liveLine_9) (fun _ hh => hh) rfl dX0_liveLine_142 ?_
              refine lv_iload_n hx hb dX0_liveLine_145 rfl (lv_at hl 2 rfl) ?_
              refine va_iald hx hb hK hP 6 6 (xw_is (r := 6) (by omega) (xc_fix (r := 6) (by omega))) (xt_is (r := 6) (by omega) rfl) (i := (nI va)) (vp_in_nI (by omega) (by decide)) dX0_liveLine_146 ?_
              refine zz_top (v := (nI m9)) (by rw [nI_clamp (by omega)]; show st 6 va = _; rw [em9]) ?_
              refine lv_aload hx hb dX0_liveLine_147 (lv_at hl 0 rfl) ?_
              refine va_gets (v := .ref (ad 9)) hx hb (EV.word hEv (i := 9) (by decide)) hS hown (hts _ mm_X0_liveLine_10) (fun _ hh => hh) dX0_liveLine_149 ?_
              refine lv_acmp_ne (rx := (some (ad j1))) (ry := (some (ad 9))) (tgt := 159) hx hb dX0_liveLine_152 (by decide) (fun hh => absurd ((EV.eqw hEv (i := j1) (j := 9) (by omega) (by omega)).mpr (by omega)) hh) (fun _ => ?_)
              refine lv_iconst (v := 1) hx hb dX0_liveLine_155 (by decide) ?_
              refine lv_goto (tgt := 160) hx hb dX0_liveLine_156 (by decide) ?_
              refine va_calli (va_runV (As := [.int (nI m9), .int 1]) (rest := [.int 30]) ⟨hx, hb, hml, hown, hts⟩ (x_X4_holdDog l dC dI ad E hEE A C nb _ hN st sl so i m9 1 (by omega) (by omega) (by omega) hG.1) (cwV 2 hts gX0_liveLine_X4_holdDog rfl rfl rfl (by decide +kernel) ⟨Nat.le_of_ble_eq_true rfl, Nat.le_of_ble_eq_true rfl⟩) ⟨fun a U g mk q => ⟨q.1, xPre.blind hEE q.2⟩, va_recv hK hP (ci := 5) (q0 := (36 + 20 * i)) rfl (xw_is (r := (36 + 20 * i)) (by omega) (xc_pk (i := i) (o := 0) (by omega) (by omega))), fun U hU hW => ⟨rfl, xPre.of hEE hP hK hE hS hU hW⟩⟩ rfl rfl hl.1 rfl (lv_room (Nat.le_of_ble_eq_true rfl)) dX0_liveLine_160 ⟨Nat.le_of_ble_eq_true rfl, Nat.le_of_ble_eq_true rfl⟩) hS (fun q _ h => XA.le hS.1 q h) (XA.le hS.1) (fun r10 x t H locs ht hvm hw hB _ _ hS => ?_)
              have hP := xB.at ht hB
              clear hB ht hvm
              obtain ⟨st11, sl12, so13⟩ := x
              obtain ⟨hGst11, hLGst11, hOst11, hw⟩ := hw
              dsimp only at hGst11 hLGst11 hOst11 hw
              have hL : LGq sl sl12 := hL.tr hLGst11
              replace hOst11 := hOst11.symm
              subst hOst11
              have hP : va_P (dC, dI) vwCl (xw A C nb st11 sl12 so) _ := hP
              have hG : XG [1, 2, 3, 4, 5, 6, 7, 8, 9, 10, 11, 12, 13, 14, 15] st st11 := hG.tr hGst11 (by decide)
              clear hw
              refine va_calli (va_runS (As := [.int 30, .int r10]) (rest := []) ⟨hx, hb, hml, hown, hts⟩ (x_X0_whyNot l dC dI ad E hEE A C nb _ hN st11 sl12 so 30 r10  hG.1) (va_cwS 2 hts gX0_liveLine_X0_whyNot rfl rfl rfl (by decide +kernel) ⟨Nat.le_of_ble_eq_true rfl, Nat.le_of_ble_eq_true rfl⟩) ⟨fun a U g mk q => ⟨q.1, xPre.blind hEE q.2⟩, fun U hU hW => ⟨rfl, xPre.of hEE hP hK hE hS hU hW⟩⟩ rfl rfl hl.1 rfl (lv_room (Nat.le_of_ble_eq_true rfl)) dX0_liveLine_163 ⟨Nat.le_of_ble_eq_true rfl, Nat.le_of_ble_eq_true rfl⟩) hS (fun q _ h => XA.le hS.1 q h) (XA.le hS.1) (fun r14 x t H locs ht hvm hw hB _ _ hS => ?_)
              have hP := xB.at ht hB
              clear hB ht hvm
              obtain ⟨rfl, hw⟩ := hw
              have hP : va_P (dC, dI) vwCl (xw A C nb st11 sl12 so) _ := hP
              clear hw
              exact W.iret (v := r14) hx hb hr (fun t ht hW => ⟨⟨r14, (st11, sl12, so), rfl, ⟨hG, hL, rfl, trivial⟩, xB.of ht hP⟩, hS.F ht⟩) hS.2.2 dX0_liveLine_166
            · have c13 : ¬ j1 = 9 := fun hh => c13 ((EV.eqw hEv (i := j1) (j := 9) (by omega) (by omega)).mpr hh)
              refine lv_aload hx hb dX0_liveLine_130 (lv_at hl 0 rfl) ?_
              refine va_gets (v := .ref (ad 10)) hx hb (EV.word hEv (i := 10) (by decide)) hS hown (hts _ mm_X0_liveLine_11) (fun _ hh => hh) dX0_liveLine_132 ?_
              refine lv_acmp_ne (rx := (some (ad j1))) (ry := (some (ad 10))) (tgt := 167) hx hb dX0_liveLine_135 (by decide) (fun c15 => ?_) (fun c15 => ?_)
              · have c15 : ¬ j1 = 10 := fun hh => c15 ((EV.eqw hEv (i := j1) (j := 10) (by omega) (by omega)).mpr hh)
                refine lv_aload hx hb dX0_liveLine_167 (lv_at hl 0 rfl) ?_
                refine va_gets (v := .ref (ad 11)) hx hb (EV.word hEv (i := 11) (by decide)) hS hown (hts _ mm_X0_liveLine_12) (fun _ hh => hh) dX0_liveLine_169 ?_
                refine lv_acmp_ne (rx := (some (ad j1))) (ry := (some (ad 11))) (tgt := 209) hx hb dX0_liveLine_172 (by decide) (fun c16 => ?_) (fun c16 => ?_)
                · have c16 : ¬ j1 = 11 := fun hh => c16 ((EV.eqw hEv (i := j1) (j := 11) (by omega) (by omega)).mpr hh)
                  refine lv_aload_n hx hb dX0_liveLine_209 rfl (lv_at hl 1 rfl) ?_
                  refine va_get (D := (dC, dI)) (ci := 1) (v := .ref (A 6)) (C := RX0) (T := TX0) (N := 7) hx hb hts ii_X0_liveLine_X0 hown hK hP 4 (xw_is (r := 4) (by omega) (xc_fix (r := 4) (by omega))) rfl 1 (by decide) (hts _ mm_X0_liveLine_9) (fun _ hh => hh) rfl dX0_liveLine_210 ?_
                  refine lv_iload_n hx hb dX0_liveLine_213 rfl (lv_at hl 2 rfl) ?_
                  refine va_iald hx hb hK hP 6 6 (xw_is (r := 6) (by omega) (xc_fix (r := 6) (by omega))) (xt_is (r := 6) (by omega) rfl) (i := (nI va)) (vp_in_nI (by omega) (by decide)) dX0_liveLine_214 ?_
                  obtain ⟨z15, ez15⟩ : ∃ y : Int32, st 6 va = y := ⟨_, rfl⟩
                  refine zz_top (v := z15) (by rw [nI_clamp (by omega)]; exact ez15) ?_
                  refine lv_sipush (v := 400) hx hb dX0_liveLine_215 (by decide) ?_
                  refine lv_aload_n hx hb dX0_liveLine_218 rfl (lv_at hl 3 rfl) ?_
                  refine va_getN (host := "OffTheLead") (D := (dC, dI)) (ci := 5) (v := .int (st (36 + 20 * i) 9)) (C := RX4) (T := TX4) (N := 12) hx hb hts ii_X0_liveLine_X4 hown hK hP (36 + 20 * i) (xw_is (r := (36 + 20 * i)) (by omega) (xc_pk (i := i) (o := 0) (by omega) (by omega))) rfl 9 (by decide) (va_Nw.use rfl (nf_X0_160 hEv)) (fun _ hh => hh) rfl dX0_liveLine_219 ?_
                  obtain ⟨z16, ez16⟩ : ∃ y : Int32, st (36 + 20 * i) 9 = y := ⟨_, rfl⟩
                  refine zz_top (v := z16) (by exact ez16) ?_
                  refine lv_isub hx hb dX0_liveLine_222 ?_
                  refine lv_topi (fun z17 ez17 => ?_)
                  clear ez17
                  refine lv_icmp_le (tgt := 229) hx hb dX0_liveLine_223 (by decide) (fun c17 => ?_) (fun c17 => ?_)
                  · refine lv_aload_n hx hb dX0_liveLine_229 rfl (lv_at hl 4 rfl) ?_
                    refine lv_aload_n hx hb dX0_liveLine_230 rfl (lv_at hl 3 rfl) ?_
                    refine lv_aload_n hx hb dX0_liveLine_231 rfl (lv_at hl 1 rfl) ?_
                    refine va_get (D := (dC, dI)) (ci := 1) (v := .ref (A 6)) (C := RX0) (T := TX0) (N := 7) hx hb hts ii_X0_liveLine_X0 hown hK hP 4 (xw_is (r := 4) (by omega) (xc_fix (r := 4) (by omega))) rfl 1 (by decide) (hts _ mm_X0_liveLine_9) (fun _ hh => hh) rfl dX0_liveLine_232 ?_
                    refine lv_iload_n hx hb dX0_liveLine_235 rfl (lv_at hl 2 rfl) ?_
                    refine va_iald hx hb hK hP 6 6 (xw_is (r := 6) (by omega) (xc_fix (r := 6) (by omega))) (xt_is (r := 6) (by omega) rfl) (i := (nI va)) (vp_in_nI (by omega) (by decide)) dX0_liveLine_236 ?_
                    refine zz_top (v := z15) (by rw [nI_clamp (by omega)]; show st 6 va = _; rw [ez15]) ?_
                    refine lv_aload_n hx hb dX0_liveLine_237 rfl (lv_at hl 1 rfl) ?_
                    refine va_get (D := (dC, dI)) (ci := 1) (v := .ref (A 6)) (C := RX0) (T := TX0) (N := 7) hx hb hts ii_X0_liveLine_X0 hown hK hP 4 (xw_is (r := 4) (by omega) (xc_fix (r := 4) (by omega))) rfl 1 (by decide) (hts _ mm_X0_liveLine_9) (fun _ hh => hh) rfl dX0_liveLine_238 ?_
                    refine lv_iload_n hx hb dX0_liveLine_241 rfl (lv_at hl 2 rfl) ?_
                    refine va_iald hx hb hK hP 6 6 (xw_is (r := 6) (by omega) (xc_fix (r := 6) (by omega))) (xt_is (r := 6) (by omega) rfl) (i := (nI va)) (vp_in_nI (by omega) (by decide)) dX0_liveLine_242 ?_
                    refine zz_top (v := z15) (by rw [nI_clamp (by omega)]; show st 6 va = _; rw [ez15]) ?_
                    refine va_calli (va_runV (As := [.ref (A (36 + 20 * i)), .int z15, .int z15]) (rest := []) ⟨hx, hb, hml, hown, hts⟩ (x_X1_live l dC dI ad E hEE A C nb _ hN st sl so i z15 z15 (by omega) hG.1) (cwV 3 hts gX0_liveLine_X1_live rfl rfl rfl (by decide +kernel) ⟨Nat.le_of_ble_eq_true rfl, Nat.le_of_ble_eq_true rfl⟩) ⟨fun a U g mk q => ⟨q.1, xPre.blind hEE q.2⟩, va_recv hK hP (ci := 2) (q0 := 10) rfl (xw_is (r := 10) (by omega) (xc_fix (r := 10) (by omega))), fun U hU hW => ⟨rfl, xPre.of hEE hP hK hE hS hU hW⟩⟩ rfl rfl hl.1 rfl (lv_room (Nat.le_of_ble_eq_true rfl)) dX0_liveLine_243 ⟨Nat.le_of_ble_eq_true rfl, Nat.le_of_ble_eq_true rfl⟩) hS (fun q _ h => XA.le hS.1 q h) (XA.le hS.1) (fun r18 x t H locs ht hvm hw hB _ _ hS => ?_)
                    have hP := xB.at ht hB
                    clear hB ht hvm
                    obtain ⟨st19, sl20, so21⟩ := x
                    obtain ⟨hGst19, hLGst19, hOst19, hw⟩ := hw
                    dsimp only at hGst19 hLGst19 hOst19 hw
                    have hL : LGq sl sl20 := hL.tr hLGst19
                    replace hOst19 := hOst19.symm
                    subst hOst19
                    have hP : va_P (dC, dI) vwCl (xw A C nb st19 sl20 so) _ := hP
                    have hG : XG [1, 2, 3, 4, 5, 6, 7, 8, 9, 10, 11, 12, 13, 14, 15] st st19 := hG.tr hGst19 (by decide)
                    clear hw
                    refine lv_pop hx hb dX0_liveLine_246 rfl ?_
                    refine lv_iconst (v := 0) hx hb dX0_liveLine_247 (by decide) ?_
                    exact W.iret (v := 0) hx hb hr (fun t ht hW => ⟨⟨0, (st19, sl20, so), rfl, ⟨hG, hL, rfl, trivial⟩, xB.of ht hP⟩, hS.F ht⟩) hS.2.2 dX0_liveLine_248
                  · refine lv_bipush (v := 51) hx hb dX0_liveLine_226 (by decide) ?_
                    exact W.iret (v := 51) hx hb hr (fun t ht hW => ⟨⟨51, (st, sl, so), rfl, ⟨hG, hL, rfl, trivial⟩, xB.of ht hP⟩, hS.F ht⟩) hS.2.2 dX0_liveLine_228
                · have c16 : j1 = 11 := (EV.eqw hEv (i := j1) (j := 11) (by omega) (by omega)).mp c16
                  obtain ⟨m22, hm22, em22⟩ := hbk.2 (by rw [ej1, c16])
                  refine lv_bipush (v := 40) hx hb dX0_liveLine_175 (by decide) ?_
                  refine lv_aload_n hx hb dX0_liveLine_177 rfl (lv_at hl 3 rfl) ?_
                  refine lv_aload_n hx hb dX0_liveLine_178 rfl (lv_at hl 1 rfl) ?_
                  refine va_get (D := (dC, dI)) (ci := 1) (v := .ref (A 6)) (C := RX0) (T := TX0) (N := 7) hx hb hts ii_X0_liveLine_X0 hown hK hP 4 (xw_is (r := 4) (by omega) (xc_fix (r := 4) (by omega))) rfl 1 (by decide) (hts _ mm_X0_liveLine_9) (fun _ hh => hh) rfl dX0_liveLine_179 ?_
                  refine lv_iload_n hx hb dX0_liveLine_182 rfl (lv_at hl 2 rfl) ?_
                  refine va_iald hx hb hK hP 6 6 (xw_is (r := 6) (by omega) (xc_fix (r := 6) (by omega))) (xt_is (r := 6) (by omega) rfl) (i := (nI va)) (vp_in_nI (by omega) (by decide)) dX0_liveLine_183 ?_
                  refine zz_top (v := (nI m22)) (by rw [nI_clamp (by omega)]; show st 6 va = _; rw [em22]) ?_
                  refine lv_aload_n hx hb dX0_liveLine_184 rfl (lv_at hl 1 rfl) ?_
                  refine va_get (D := (dC, dI)) (ci := 1) (v := .ref (A 7)) (C := RX0) (T := TX0) (N := 7) hx hb hts ii_X0_liveLine_X0 hown hK hP 4 (xw_is (r := 4) (by omega) (xc_fix (r := 4) (by omega))) rfl 2 (by decide) (hts _ mm_X0_liveLine_3) (fun _ hh => hh) rfl dX0_liveLine_185 ?_
                  refine lv_iload_n hx hb dX0_liveLine_188 rfl (lv_at hl 2 rfl) ?_
                  refine va_iald hx hb hK hP 7 7 (xw_is (r := 7) (by omega) (xc_fix (r := 7) (by omega))) (xt_is (r := 7) (by omega) rfl) (i := (nI va)) (vp_in_nI (by omega) (by decide)) dX0_liveLine_189 ?_
                  obtain ⟨n23, hn23, en23⟩ := hG.1.at (r := 7) (k := va) (b := 5) (by unfold xrg; rfl : xrg 7 va = 5) (by decide)
                  refine zz_top (v := nI n23) (by rw [nI_clamp (by omega)]; exact en23) ?_
                  refine lv_aload_n hx hb dX0_liveLine_190 rfl (lv_at hl 1 rfl) ?_
                  refine va_get (D := (dC, dI)) (ci := 1) (v := .ref (A 8)) (C := RX0) (T := TX0) (N := 7) hx hb hts ii_X0_liveLine_X0 hown hK hP 4 (xw_is (r := 4) (by omega) (xc_fix (r := 4) (by omega))) rfl 3 (by decide) (hts _ mm_X0_liveLine_4) (fun _ hh => hh) rfl dX0_liveLine_191 ?_
                  refine lv_iload_n hx hb dX0_liveLine_194 rfl (lv_at hl 2 rfl) ?_
                  refine va_iald hx hb hK hP 8 8 (xw_is (r := 8) (by omega) (xc_fix (r := 8) (by omega))) (xt_is (r := 8) (by omega) rfl) (i := (nI va)) (vp_in_nI (by omega) (by decide)) dX0_liveLine_195 ?_
                  obtain ⟨z24, ez24⟩ : ∃ y : Int32, st 8 va = y := ⟨_, rfl⟩
                  refine zz_top (v := z24) (by rw [nI_clamp (by omega)]; exact ez24) ?_
                  refine lv_aload_n hx hb dX0_liveLine_196 rfl (lv_at hl 1 rfl) ?_
                  refine va_get (D := (dC, dI)) (ci := 1) (v := .ref (A 9)) (C := RX0) (T := TX0) (N := 7) hx hb hts ii_X0_liveLine_X0 hown hK hP 4 (xw_is (r := 4) (by omega) (xc_fix (r := 4) (by omega))) rfl 4 (by decide) (hts _ mm_X0_liveLine_5) (fun _ hh => hh) rfl dX0_liveLine_197 ?_
                  refine lv_iload_n hx hb dX0_liveLine_200 rfl (lv_at hl 2 rfl) ?_
                  refine va_iald hx hb hK hP 9 9 (xw_is (r := 9) (by omega) (xc_fix (r := 9) (by omega))) (xt_is (r := 9) (by omega) rfl) (i := (nI va)) (vp_in_nI (by omega) (by decide)) dX0_liveLine_201 ?_
                  obtain ⟨z25, ez25⟩ : ∃ y : Int32, st 9 va = y := ⟨_, rfl⟩
                  refine zz_top (v := z25) (by rw [nI_clamp (by omega)]; exact ez25) ?_
                  refine va_calli (va_runV (As := [.int (nI m22), .int (nI n23), .int z24, .int z25]) (rest := [.int 40]) ⟨hx, hb, hml, hown, hts⟩ (x_X4_bring l dC dI ad E hEE A C nb _ hN st sl so i m22 n23 z24 z25 (by omega) (by omega) (by omega) hG.1) (cwV 4 hts gX0_liveLine_X4_bring rfl rfl rfl (by decide +kernel) ⟨Nat.le_of_ble_eq_true rfl, Nat.le_of_ble_eq_true rfl⟩) ⟨fun a U g mk q => ⟨q.1, xPre.blind hEE q.2⟩, va_recv hK hP (ci := 5) (q0 := (36 + 20 * i)) rfl (xw_is (r := (36 + 20 * i)) (by omega) (xc_pk (i := i) (o := 0) (by omega) (by omega))), fun U hU hW => ⟨rfl, xPre.of hEE hP hK hE hS hU hW⟩⟩ rfl rfl hl.1 rfl (lv_room (Nat.le_of_ble_eq_true rfl)) dX0_liveLine_202 ⟨Nat.le_of_ble_eq_true rfl, Nat.le_of_ble_eq_true rfl⟩) hS (fun q _ h => XA.le hS.1 q h) (XA.le hS.1) (fun r26 x t H locs ht hvm hw hB _ _ hS => ?_)
                  have hP := xB.at ht hB
                  clear hB ht hvm
                  obtain ⟨st27, sl28, so29⟩ := x
                  obtain ⟨hGst27, hLGst27, hOst27, hw⟩ := hw
                  dsimp only at hGst27 hLGst27 hOst27 hw
                  have hL : LGq sl sl28 := hL.tr hLGst27
                  replace hOst27 := hOst27.symm
                  subst hOst27
                  have hP : va_P (dC, dI) vwCl (xw A C nb st27 sl28 so) _ := hP
                  have hG : XG [1, 2, 3, 4, 5, 6, 7, 8, 9, 10, 11, 12, 13, 14, 15] st st27 := hG.tr hGst27 (by decide)
                  clear hw
                  refine va_calli (va_runS (As := [.int 40, .int r26]) (rest := []) ⟨hx, hb, hml, hown, hts⟩ (x_X0_whyNot l dC dI ad E hEE A C nb _ hN st27 sl28 so 40 r26  hG.1) (va_cwS 2 hts gX0_liveLine_X0_whyNot rfl rfl rfl (by decide +kernel) ⟨Nat.le_of_ble_eq_true rfl, Nat.le_of_ble_eq_true rfl⟩) ⟨fun a U g mk q => ⟨q.1, xPre.blind hEE q.2⟩, fun U hU hW => ⟨rfl, xPre.of hEE hP hK hE hS hU hW⟩⟩ rfl rfl hl.1 rfl (lv_room (Nat.le_of_ble_eq_true rfl)) dX0_liveLine_205 ⟨Nat.le_of_ble_eq_true rfl, Nat.le_of_ble_eq_true rfl⟩) hS (fun q _ h => XA.le hS.1 q h) (XA.le hS.1) (fun r30 x t H locs ht hvm hw hB _ _ hS => ?_)
                  have hP := xB.at ht hB
                  clear hB ht hvm
                  obtain ⟨rfl, hw⟩ := hw
                  have hP : va_P (dC, dI) vwCl (xw A C nb st27 sl28 so) _ := hP
                  clear hw
                  exact W.iret (v := r30) hx hb hr (fun t ht hW => ⟨⟨r30, (st27, sl28, so), rfl, ⟨hG, hL, rfl, trivial⟩, xB.of ht hP⟩, hS.F ht⟩) hS.2.2 dX0_liveLine_208
              · have c15 : j1 = 10 := (EV.eqw hEv (i := j1) (j := 10) (by omega) (by omega)).mp c15
                obtain ⟨m31, hm31, em31⟩ := hbk.1 (Or.inr (by rw [ej1, c15]))
                refine lv_bipush (v := 30) hx hb dX0_liveLine_138 (by decide) ?_
                refine lv_aload_n hx hb dX0_liveLine_140 rfl (lv_at hl 3 rfl) ?_
                refine lv_aload_n hx hb dX0_liveLine_141 rfl (lv_at hl 1 rfl) ?_
                refine va_get (D := (dC, dI)) (ci := 1) (v := .ref (A 6)) (C := RX0) (T := TX0) (N := 7) hx hb hts ii_X0_liveLine_X0 hown hK hP 4 (xw_is (r := 4) (by omega) (xc_fix (r := 4) (by omega))) rfl 1 (by decide) (hts _ mm_X0_liveLine_9) (fun _ hh => hh) rfl dX0_liveLine_142 ?_
                refine lv_iload_n hx hb dX0_liveLine_145 rfl (lv_at hl 2 rfl) ?_
                refine va_iald hx hb hK hP 6 6 (xw_is (r := 6) (by omega) (xc_fix (r := 6) (by omega))) (xt_is (r := 6) (by omega) rfl) (i := (nI va)) (vp_in_nI (by omega) (by decide)) dX0_liveLine_146 ?_
                refine zz_top (v := (nI m31)) (by rw [nI_clamp (by omega)]; show st 6 va = _; rw [em31]) ?_
                refine lv_aload hx hb dX0_liveLine_147 (lv_at hl 0 rfl) ?_
                refine va_gets (v := .ref (ad 9)) hx hb (EV.word hEv (i := 9) (by decide)) hS hown (hts _ mm_X0_liveLine_10) (fun _ hh => hh) dX0_liveLine_149 ?_
                refine lv_acmp_ne (rx := (some (ad j1))) (ry := (some (ad 9))) (tgt := 159) hx hb dX0_liveLine_152 (by decide) (fun _ => ?_) (fun hh => absurd ((EV.eqw hEv (i := j1) (j := 9) (by omega) (by omega)).mp hh) (by omega))
                refine lv_iconst (v := 0) hx hb dX0_liveLine_159 (by decide) ?_
                refine va_calli (va_runV (As := [.int (nI m31), .int 0]) (rest := [.int 30]) ⟨hx, hb, hml, hown, hts⟩ (x_X4_holdDog l dC dI ad E hEE A C nb _ hN st sl so i m31 0 (by omega) (by omega) (by omega) hG.1) (cwV 2 hts gX0_liveLine_X4_holdDog rfl rfl rfl (by decide +kernel) ⟨Nat.le_of_ble_eq_true rfl, Nat.le_of_ble_eq_true rfl⟩) ⟨fun a U g mk q => ⟨q.1, xPre.blind hEE q.2⟩, va_recv hK hP (ci := 5) (q0 := (36 + 20 * i)) rfl (xw_is (r := (36 + 20 * i)) (by omega) (xc_pk (i := i) (o := 0) (by omega) (by omega))), fun U hU hW => ⟨rfl, xPre.of hEE hP hK hE hS hU hW⟩⟩ rfl rfl hl.1 rfl (lv_room (Nat.le_of_ble_eq_true rfl)) dX0_liveLine_160 ⟨Nat.le_of_ble_eq_true rfl, Nat.le_of_ble_eq_true rfl⟩) hS (fun q _ h => XA.le hS.1 q h) (XA.le hS.1) (fun r32 x t H locs ht hvm hw hB _ _ hS => ?_)
                have hP := xB.at ht hB
                clear hB ht hvm
                obtain ⟨st33, sl34, so35⟩ := x
                obtain ⟨hGst33, hLGst33, hOst33, hw⟩ := hw
                dsimp only at hGst33 hLGst33 hOst33 hw
                have hL : LGq sl sl34 := hL.tr hLGst33
                replace hOst33 := hOst33.symm
                subst hOst33
                have hP : va_P (dC, dI) vwCl (xw A C nb st33 sl34 so) _ := hP
                have hG : XG [1, 2, 3, 4, 5, 6, 7, 8, 9, 10, 11, 12, 13, 14, 15] st st33 := hG.tr hGst33 (by decide)
                clear hw
                refine va_calli (va_runS (As := [.int 30, .int r32]) (rest := []) ⟨hx, hb, hml, hown, hts⟩ (x_X0_whyNot l dC dI ad E hEE A C nb _ hN st33 sl34 so 30 r32  hG.1) (va_cwS 2 hts gX0_liveLine_X0_whyNot rfl rfl rfl (by decide +kernel) ⟨Nat.le_of_ble_eq_true rfl, Nat.le_of_ble_eq_true rfl⟩) ⟨fun a U g mk q => ⟨q.1, xPre.blind hEE q.2⟩, fun U hU hW => ⟨rfl, xPre.of hEE hP hK hE hS hU hW⟩⟩ rfl rfl hl.1 rfl (lv_room (Nat.le_of_ble_eq_true rfl)) dX0_liveLine_163 ⟨Nat.le_of_ble_eq_true rfl, Nat.le_of_ble_eq_true rfl⟩) hS (fun q _ h => XA.le hS.1 q h) (XA.le hS.1) (fun r36 x t H locs ht hvm hw hB _ _ hS => ?_)
                have hP := xB.at ht hB
                clear hB ht hvm
                obtain ⟨rfl, hw⟩ := hw
                have hP : va_P (dC, dI) vwCl (xw A C nb st33 sl34 so) _ := hP
                clear hw
                exact W.iret (v := r36) hx hb hr (fun t ht hW => ⟨⟨r36, (st33, sl34, so), rfl, ⟨hG, hL, rfl, trivial⟩, xB.of ht hP⟩, hS.F ht⟩) hS.2.2 dX0_liveLine_166
          · have c12 : j1 = 5 := (EV.eqw hEv (i := j1) (j := 5) (by omega) (by omega)).mp c12
            refine lv_bipush (v := 20) hx hb dX0_liveLine_106 (by decide) ?_
            refine lv_aload_n hx hb dX0_liveLine_108 rfl (lv_at hl 3 rfl) ?_
            refine lv_aload_n hx hb dX0_liveLine_109 rfl (lv_at hl 1 rfl) ?_
            refine va_get (D := (dC, dI)) (ci := 1) (v := .ref (A 6)) (C := RX0) (T := TX0) (N := 7) hx hb hts ii_X0_liveLine_X0 hown hK hP 4 (xw_is (r := 4) (by omega) (xc_fix (r := 4) (by omega))) rfl 1 (by decide) (hts _ mm_X0_liveLine_9) (fun _ hh => hh) rfl dX0_liveLine_110 ?_
            refine lv_iload_n hx hb dX0_liveLine_113 rfl (lv_at hl 2 rfl) ?_
            refine va_iald hx hb hK hP 6 6 (xw_is (r := 6) (by omega) (xc_fix (r := 6) (by omega))) (xt_is (r := 6) (by omega) rfl) (i := (nI va)) (vp_in_nI (by omega) (by decide)) dX0_liveLine_114 ?_
            obtain ⟨z37, ez37⟩ : ∃ y : Int32, st 6 va = y := ⟨_, rfl⟩
            refine zz_top (v := z37) (by rw [nI_clamp (by omega)]; exact ez37) ?_
            refine va_calli (va_runV (As := [.int z37]) (rest := [.int 20]) ⟨hx, hb, hml, hown, hts⟩ (x_X4_writeSign l dC dI ad E hEE A C nb _ hN st sl so i z37 (by omega) hG.1) (cwV 1 hts gX0_liveLine_X4_writeSign rfl rfl rfl (by decide +kernel) ⟨Nat.le_of_ble_eq_true rfl, Nat.le_of_ble_eq_true rfl⟩) ⟨fun a U g mk q => ⟨q.1, xPre.blind hEE q.2⟩, va_recv hK hP (ci := 5) (q0 := (36 + 20 * i)) rfl (xw_is (r := (36 + 20 * i)) (by omega) (xc_pk (i := i) (o := 0) (by omega) (by omega))), fun U hU hW => ⟨rfl, xPre.of hEE hP hK hE hS hU hW⟩⟩ rfl rfl hl.1 rfl (lv_room (Nat.le_of_ble_eq_true rfl)) dX0_liveLine_115 ⟨Nat.le_of_ble_eq_true rfl, Nat.le_of_ble_eq_true rfl⟩) hS (fun q _ h => XA.le hS.1 q h) (XA.le hS.1) (fun r38 x t H locs ht hvm hw hB _ _ hS => ?_)
            have hP := xB.at ht hB
            clear hB ht hvm
            obtain ⟨st39, sl40, so41⟩ := x
            obtain ⟨hGst39, hLGst39, hOst39, hw⟩ := hw
            dsimp only at hGst39 hLGst39 hOst39 hw
            have hL : LGq sl sl40 := hL.tr hLGst39
            replace hOst39 := hOst39.symm
            subst hOst39
            have hP : va_P (dC, dI) vwCl (xw A C nb st39 sl40 so) _ := hP
            have hG : XG [1, 2, 3, 4, 5, 6, 7, 8, 9, 10, 11, 12, 13, 14, 15] st st39 := hG.tr hGst39 (by decide)
            clear hw
            refine va_calli (va_runS (As := [.int 20, .int r38]) (rest := []) ⟨hx, hb, hml, hown, hts⟩ (x_X0_whyNot l dC dI ad E hEE A C nb _ hN st39 sl40 so 20 r38  hG.1) (va_cwS 2 hts gX0_liveLine_X0_whyNot rfl rfl rfl (by decide +kernel) ⟨Nat.le_of_ble_eq_true rfl, Nat.le_of_ble_eq_true rfl⟩) ⟨fun a U g mk q => ⟨q.1, xPre.blind hEE q.2⟩, fun U hU hW => ⟨rfl, xPre.of hEE hP hK hE hS hU hW⟩⟩ rfl rfl hl.1 rfl (lv_room (Nat.le_of_ble_eq_true rfl)) dX0_liveLine_118 ⟨Nat.le_of_ble_eq_true rfl, Nat.le_of_ble_eq_true rfl⟩) hS (fun q _ h => XA.le hS.1 q h) (XA.le hS.1) (fun r42 x t H locs ht hvm hw hB _ _ hS => ?_)
            have hP := xB.at ht hB
            clear hB ht hvm
            obtain ⟨rfl, hw⟩ := hw
            have hP : va_P (dC, dI) vwCl (xw A C nb st39 sl40 so) _ := hP
            clear hw
            exact W.iret (v := r42) hx hb hr (fun t ht hW => ⟨⟨r42, (st39, sl40, so), rfl, ⟨hG, hL, rfl, trivial⟩, xB.of ht hP⟩, hS.F ht⟩) hS.2.2 dX0_liveLine_121
        · have c11 : j1 = 8 := (EV.eqw hEv (i := j1) (j := 8) (by omega) (by omega)).mp c11
          refine lv_aload_n hx hb dX0_liveLine_87 rfl (lv_at hl 3 rfl) ?_
          refine lv_aload_n hx hb dX0_liveLine_88 rfl (lv_at hl 1 rfl) ?_
          refine va_get (D := (dC, dI)) (ci := 1) (v := .ref (A 7)) (C := RX0) (T := TX0) (N := 7) hx hb hts ii_X0_liveLine_X0 hown hK hP 4 (xw_is (r := 4) (by omega) (xc_fix (r := 4) (by omega))) rfl 2 (by decide) (hts _ mm_X0_liveLine_3) (fun _ hh => hh) rfl dX0_liveLine_89 ?_
          refine lv_iload_n hx hb dX0_liveLine_92 rfl (lv_at hl 2 rfl) ?_
          refine va_iald hx hb hK hP 7 7 (xw_is (r := 7) (by omega) (xc_fix (r := 7) (by omega))) (xt_is (r := 7) (by omega) rfl) (i := (nI va)) (vp_in_nI (by omega) (by decide)) dX0_liveLine_93 ?_
          obtain ⟨n43, hn43, en43⟩ := hG.1.at (r := 7) (k := va) (b := 5) (by unfold xrg; rfl : xrg 7 va = 5) (by decide)
          refine zz_top (v := nI n43) (by rw [nI_clamp (by omega)]; exact en43) ?_
          refine va_calli (va_runV (As := [.int (nI n43)]) (rest := []) ⟨hx, hb, hml, hown, hts⟩ (x_X4_turnFence l dC dI ad E hEE A C nb _ hN st sl so i n43 (by omega) (by omega) hG.1) (cwV 1 hts gX0_liveLine_X4_turnFence rfl rfl rfl (by decide +kernel) ⟨Nat.le_of_ble_eq_true rfl, Nat.le_of_ble_eq_true rfl⟩) ⟨fun a U g mk q => ⟨q.1, xPre.blind hEE q.2⟩, va_recv hK hP (ci := 5) (q0 := (36 + 20 * i)) rfl (xw_is (r := (36 + 20 * i)) (by omega) (xc_pk (i := i) (o := 0) (by omega) (by omega))), fun U hU hW => ⟨rfl, xPre.of hEE hP hK hE hS hU hW⟩⟩ rfl rfl hl.1 rfl (lv_room (Nat.le_of_ble_eq_true rfl)) dX0_liveLine_94 ⟨Nat.le_of_ble_eq_true rfl, Nat.le_of_ble_eq_true rfl⟩) hS (fun q _ h => XA.le hS.1 q h) (XA.le hS.1) (fun r44 x t H locs ht hvm hw hB _ _ hS => ?_)
          have hP := xB.at ht hB
          clear hB ht hvm
          obtain ⟨st45, sl46, so47⟩ := x
          obtain ⟨hGst45, hLGst45, hOst45, hw⟩ := hw
          dsimp only at hGst45 hLGst45 hOst45 hw
          have hL : LGq sl sl46 := hL.tr hLGst45
          replace hOst45 := hOst45.symm
          subst hOst45
          have hP : va_P (dC, dI) vwCl (xw A C nb st45 sl46 so) _ := hP
          have hG : XG [1, 2, 3, 4, 5, 6, 7, 8, 9, 10, 11, 12, 13, 14, 15] st st45 := hG.tr hGst45 (by decide)
          clear hw
          exact W.iret (v := r44) hx hb hr (fun t ht hW => ⟨⟨r44, (st45, sl46, so), rfl, ⟨hG, hL, rfl, trivial⟩, xB.of ht hP⟩, hS.F ht⟩) hS.2.2 dX0_liveLine_97
      · have c10 : j1 = 7 := (EV.eqw hEv (i := j1) (j := 7) (by omega) (by omega)).mp c10
        refine lv_bipush (v := 10) hx hb dX0_liveLine_51 (by decide) ?_
        refine lv_aload_n hx hb dX0_liveLine_53 rfl (lv_at hl 3 rfl) ?_
        refine lv_aload_n hx hb dX0_liveLine_54 rfl (lv_at hl 1 rfl) ?_
        refine va_get (D := (dC, dI)) (ci := 1) (v := .ref (A 7)) (C := RX0) (T := TX0) (N := 7) hx hb hts ii_X0_liveLine_X0 hown hK hP 4 (xw_is (r := 4) (by omega) (xc_fix (r := 4) (by omega))) rfl 2 (by decide) (hts _ mm_X0_liveLine_3) (fun _ hh => hh) rfl dX0_liveLine_55 ?_
        refine lv_iload_n hx hb dX0_liveLine_58 rfl (lv_at hl 2 rfl) ?_
        refine va_iald hx hb hK hP 7 7 (xw_is (r := 7) (by omega) (xc_fix (r := 7) (by omega))) (xt_is (r := 7) (by omega) rfl) (i := (nI va)) (vp_in_nI (by omega) (by decide)) dX0_liveLine_59 ?_
        obtain ⟨n48, hn48, en48⟩ := hG.1.at (r := 7) (k := va) (b := 5) (by unfold xrg; rfl : xrg 7 va = 5) (by decide)
        refine zz_top (v := nI n48) (by rw [nI_clamp (by omega)]; exact en48) ?_
        refine lv_aload_n hx hb dX0_liveLine_60 rfl (lv_at hl 1 rfl) ?_
        refine va_get (D := (dC, dI)) (ci := 1) (v := .ref (A 8)) (C := RX0) (T := TX0) (N := 7) hx hb hts ii_X0_liveLine_X0 hown hK hP 4 (xw_is (r := 4) (by omega) (xc_fix (r := 4) (by omega))) rfl 3 (by decide) (hts _ mm_X0_liveLine_4) (fun _ hh => hh) rfl dX0_liveLine_61 ?_
        refine lv_iload_n hx hb dX0_liveLine_64 rfl (lv_at hl 2 rfl) ?_
        refine va_iald hx hb hK hP 8 8 (xw_is (r := 8) (by omega) (xc_fix (r := 8) (by omega))) (xt_is (r := 8) (by omega) rfl) (i := (nI va)) (vp_in_nI (by omega) (by decide)) dX0_liveLine_65 ?_
        obtain ⟨z49, ez49⟩ : ∃ y : Int32, st 8 va = y := ⟨_, rfl⟩
        refine zz_top (v := z49) (by rw [nI_clamp (by omega)]; exact ez49) ?_
        refine lv_aload_n hx hb dX0_liveLine_66 rfl (lv_at hl 1 rfl) ?_
        refine va_get (D := (dC, dI)) (ci := 1) (v := .ref (A 9)) (C := RX0) (T := TX0) (N := 7) hx hb hts ii_X0_liveLine_X0 hown hK hP 4 (xw_is (r := 4) (by omega) (xc_fix (r := 4) (by omega))) rfl 4 (by decide) (hts _ mm_X0_liveLine_5) (fun _ hh => hh) rfl dX0_liveLine_67 ?_
        refine lv_iload_n hx hb dX0_liveLine_70 rfl (lv_at hl 2 rfl) ?_
        refine va_iald hx hb hK hP 9 9 (xw_is (r := 9) (by omega) (xc_fix (r := 9) (by omega))) (xt_is (r := 9) (by omega) rfl) (i := (nI va)) (vp_in_nI (by omega) (by decide)) dX0_liveLine_71 ?_
        obtain ⟨z50, ez50⟩ : ∃ y : Int32, st 9 va = y := ⟨_, rfl⟩
        refine zz_top (v := z50) (by rw [nI_clamp (by omega)]; exact ez50) ?_
        refine va_calli (va_runV (As := [.int (nI n48), .int z49, .int z50]) (rest := [.int 10]) ⟨hx, hb, hml, hown, hts⟩ (x_X4_forbidHours l dC dI ad E hEE A C nb _ hN st sl so i n48 z49 z50 (by omega) (by omega) hG.1) (cwV 3 hts gX0_liveLine_X4_forbidHours rfl rfl rfl (by decide +kernel) ⟨Nat.le_of_ble_eq_true rfl, Nat.le_of_ble_eq_true rfl⟩) ⟨fun a U g mk q => ⟨q.1, xPre.blind hEE q.2⟩, va_recv hK hP (ci := 5) (q0 := (36 + 20 * i)) rfl (xw_is (r := (36 + 20 * i)) (by omega) (xc_pk (i := i) (o := 0) (by omega) (by omega))), fun U hU hW => ⟨rfl, xPre.of hEE hP hK hE hS hU hW⟩⟩ rfl rfl hl.1 rfl (lv_room (Nat.le_of_ble_eq_true rfl)) dX0_liveLine_72 ⟨Nat.le_of_ble_eq_true rfl, Nat.le_of_ble_eq_true rfl⟩) hS (fun q _ h => XA.le hS.1 q h) (XA.le hS.1) (fun r51 x t H locs ht hvm hw hB _ _ hS => ?_)
        have hP := xB.at ht hB
        clear hB ht hvm
        obtain ⟨st52, sl53, so54⟩ := x
        obtain ⟨hGst52, hLGst52, hOst52, hw⟩ := hw
        dsimp only at hGst52 hLGst52 hOst52 hw
        have hL : LGq sl sl53 := hL.tr hLGst52
        replace hOst52 := hOst52.symm
        subst hOst52
        have hP : va_P (dC, dI) vwCl (xw A C nb st52 sl53 so) _ := hP
        have hG : XG [1, 2, 3, 4, 5, 6, 7, 8, 9, 10, 11, 12, 13, 14, 15] st st52 := hG.tr hGst52 (by decide)
        clear hw
        refine va_calli (va_runS (As := [.int 10, .int r51]) (rest := []) ⟨hx, hb, hml, hown, hts⟩ (x_X0_whyNot l dC dI ad E hEE A C nb _ hN st52 sl53 so 10 r51  hG.1) (va_cwS 2 hts gX0_liveLine_X0_whyNot rfl rfl rfl (by decide +kernel) ⟨Nat.le_of_ble_eq_true rfl, Nat.le_of_ble_eq_true rfl⟩) ⟨fun a U g mk q => ⟨q.1, xPre.blind hEE q.2⟩, fun U hU hW => ⟨rfl, xPre.of hEE hP hK hE hS hU hW⟩⟩ rfl rfl hl.1 rfl (lv_room (Nat.le_of_ble_eq_true rfl)) dX0_liveLine_75 ⟨Nat.le_of_ble_eq_true rfl, Nat.le_of_ble_eq_true rfl⟩) hS (fun q _ h => XA.le hS.1 q h) (XA.le hS.1) (fun r55 x t H locs ht hvm hw hB _ _ hS => ?_)
        have hP := xB.at ht hB
        clear hB ht hvm
        obtain ⟨rfl, hw⟩ := hw
        have hP : va_P (dC, dI) vwCl (xw A C nb st52 sl53 so) _ := hP
        clear hw
        exact W.iret (v := r55) hx hb hr (fun t ht hW => ⟨⟨r55, (st52, sl53, so), rfl, ⟨hG, hL, rfl, trivial⟩, xB.of ht hP⟩, hS.F ht⟩) hS.2.2 dX0_liveLine_78
    · have c9 : j1 = 6 := (EV.eqw hEv (i := j1) (j := 6) (by omega) (by omega)).mp c9
      refine lv_iconst (v := 0) hx hb dX0_liveLine_16 (by decide) ?_
      refine lv_aload_n hx hb dX0_liveLine_17 rfl (lv_at hl 3 rfl) ?_
      refine lv_aload_n hx hb dX0_liveLine_18 rfl (lv_at hl 1 rfl) ?_
      refine va_get (D := (dC, dI)) (ci := 1) (v := .ref (A 7)) (C := RX0) (T := TX0) (N := 7) hx hb hts ii_X0_liveLine_X0 hown hK hP 4 (xw_is (r := 4) (by omega) (xc_fix (r := 4) (by omega))) rfl 2 (by decide) (hts _ mm_X0_liveLine_3) (fun _ hh => hh) rfl dX0_liveLine_19 ?_
      refine lv_iload_n hx hb dX0_liveLine_22 rfl (lv_at hl 2 rfl) ?_
      refine va_iald hx hb hK hP 7 7 (xw_is (r := 7) (by omega) (xc_fix (r := 7) (by omega))) (xt_is (r := 7) (by omega) rfl) (i := (nI va)) (vp_in_nI (by omega) (by decide)) dX0_liveLine_23 ?_
      obtain ⟨n56, hn56, en56⟩ := hG.1.at (r := 7) (k := va) (b := 5) (by unfold xrg; rfl : xrg 7 va = 5) (by decide)
      refine zz_top (v := nI n56) (by rw [nI_clamp (by omega)]; exact en56) ?_
      refine lv_aload_n hx hb dX0_liveLine_24 rfl (lv_at hl 1 rfl) ?_
      refine va_get (D := (dC, dI)) (ci := 1) (v := .ref (A 8)) (C := RX0) (T := TX0) (N := 7) hx hb hts ii_X0_liveLine_X0 hown hK hP 4 (xw_is (r := 4) (by omega) (xc_fix (r := 4) (by omega))) rfl 3 (by decide) (hts _ mm_X0_liveLine_4) (fun _ hh => hh) rfl dX0_liveLine_25 ?_
      refine lv_iload_n hx hb dX0_liveLine_28 rfl (lv_at hl 2 rfl) ?_
      refine va_iald hx hb hK hP 8 8 (xw_is (r := 8) (by omega) (xc_fix (r := 8) (by omega))) (xt_is (r := 8) (by omega) rfl) (i := (nI va)) (vp_in_nI (by omega) (by decide)) dX0_liveLine_29 ?_
      obtain ⟨z57, ez57⟩ : ∃ y : Int32, st 8 va = y := ⟨_, rfl⟩
      refine zz_top (v := z57) (by rw [nI_clamp (by omega)]; exact ez57) ?_
      refine lv_aload_n hx hb dX0_liveLine_30 rfl (lv_at hl 1 rfl) ?_
      refine va_get (D := (dC, dI)) (ci := 1) (v := .ref (A 9)) (C := RX0) (T := TX0) (N := 7) hx hb hts ii_X0_liveLine_X0 hown hK hP 4 (xw_is (r := 4) (by omega) (xc_fix (r := 4) (by omega))) rfl 4 (by decide) (hts _ mm_X0_liveLine_5) (fun _ hh => hh) rfl dX0_liveLine_31 ?_
      refine lv_iload_n hx hb dX0_liveLine_34 rfl (lv_at hl 2 rfl) ?_
      refine va_iald hx hb hK hP 9 9 (xw_is (r := 9) (by omega) (xc_fix (r := 9) (by omega))) (xt_is (r := 9) (by omega) rfl) (i := (nI va)) (vp_in_nI (by omega) (by decide)) dX0_liveLine_35 ?_
      obtain ⟨z58, ez58⟩ : ∃ y : Int32, st 9 va = y := ⟨_, rfl⟩
      refine zz_top (v := z58) (by rw [nI_clamp (by omega)]; exact ez58) ?_
      refine va_calli (va_runV (As := [.int (nI n56), .int z57, .int z58]) (rest := [.int 0]) ⟨hx, hb, hml, hown, hts⟩ (x_X4_allowHours l dC dI ad E hEE A C nb _ hN st sl so i n56 z57 z58 (by omega) (by omega) hG.1) (cwV 3 hts gX0_liveLine_X4_allowHours rfl rfl rfl (by decide +kernel) ⟨Nat.le_of_ble_eq_true rfl, Nat.le_of_ble_eq_true rfl⟩) ⟨fun a U g mk q => ⟨q.1, xPre.blind hEE q.2⟩, va_recv hK hP (ci := 5) (q0 := (36 + 20 * i)) rfl (xw_is (r := (36 + 20 * i)) (by omega) (xc_pk (i := i) (o := 0) (by omega) (by omega))), fun U hU hW => ⟨rfl, xPre.of hEE hP hK hE hS hU hW⟩⟩ rfl rfl hl.1 rfl (lv_room (Nat.le_of_ble_eq_true rfl)) dX0_liveLine_36 ⟨Nat.le_of_ble_eq_true rfl, Nat.le_of_ble_eq_true rfl⟩) hS (fun q _ h => XA.le hS.1 q h) (XA.le hS.1) (fun r59 x t H locs ht hvm hw hB _ _ hS => ?_)
      have hP := xB.at ht hB
      clear hB ht hvm
      obtain ⟨st60, sl61, so62⟩ := x
      obtain ⟨hGst60, hLGst60, hOst60, hw⟩ := hw
      dsimp only at hGst60 hLGst60 hOst60 hw
      have hL : LGq sl sl61 := hL.tr hLGst60
      replace hOst60 := hOst60.symm
      subst hOst60
      have hP : va_P (dC, dI) vwCl (xw A C nb st60 sl61 so) _ := hP
      have hG : XG [1, 2, 3, 4, 5, 6, 7, 8, 9, 10, 11, 12, 13, 14, 15] st st60 := hG.tr hGst60 (by decide)
      clear hw
      refine va_calli (va_runS (As := [.int 0, .int r59]) (rest := []) ⟨hx, hb, hml, hown, hts⟩ (x_X0_whyNot l dC dI ad E hEE A C nb _ hN st60 sl61 so 0 r59  hG.1) (va_cwS 2 hts gX0_liveLine_X0_whyNot rfl rfl rfl (by decide +kernel) ⟨Nat.le_of_ble_eq_true rfl, Nat.le_of_ble_eq_true rfl⟩) ⟨fun a U g mk q => ⟨q.1, xPre.blind hEE q.2⟩, fun U hU hW => ⟨rfl, xPre.of hEE hP hK hE hS hU hW⟩⟩ rfl rfl hl.1 rfl (lv_room (Nat.le_of_ble_eq_true rfl)) dX0_liveLine_39 ⟨Nat.le_of_ble_eq_true rfl, Nat.le_of_ble_eq_true rfl⟩) hS (fun q _ h => XA.le hS.1 q h) (XA.le hS.1) (fun r63 x t H locs ht hvm hw hB _ _ hS => ?_)
      have hP := xB.at ht hB
      clear hB ht hvm
      obtain ⟨rfl, hw⟩ := hw
      have hP : va_P (dC, dI) vwCl (xw A C nb st60 sl61 so) _ := hP
      clear hw
      exact W.iret (v := r63) hx hb hr (fun t ht hW => ⟨⟨r63, (st60, sl61, so), rfl, ⟨hG, hL, rfl, trivial⟩, xB.of ht hP⟩, hS.F ht⟩) hS.2.2 dX0_liveLine_42
set_option maxHeartbeats 4000000 in
set_option maxRecDepth 100000 in
theorem x_X0_liveAll (l : Launch) (dC : Nat → ClassId) (dI : Nat → Nat → Nat) (ad : Nat → Nat) (E : EP) (hEE : EC ad E) (A : Nat → Nat) (C : Nat → ClassId) (nb sz : Nat) (hN : XN A) (st : Nat → Nat → Int32) (sl : Nat → Nat → Int64) (so : Nat → XR) (i : Nat) (gl : Nat) (hi : i < 13) (hI : XI st) (hOI : OI ad so) (hgl : st 4 5 = nI gl) (hgl2 : gl < 41) (hbk : BKs ad st so gl) : Met l yX0_liveAll wsX0_liveAll ({ frames := 6, cells := 0, slots := 0, locals := 147 }) (va_Pc [.ref (A 4), .ref (A (36 + 20 * i)), .ref (A 10)] (xPre E dC dI A C nb sz st sl so)) (va_Qi (fun (r : Int32) (x : XT) => XG [1, 2, 3, 4, 5, 6, 7, 8, 9, 10, 11, 12, 13, 14, 15] st x.1 ∧ LGq sl x.2.1 ∧ x.2.2 = so ∧ (True)) (xB dC dI A C nb) (XA A sz)) 0 0 (XA A sz) := by
  refine Met.ofW (cc := cX0_liveAll) (maxL := 4) (ret := (some .int)) (by decide) rfl ?_
  intro p e s m args below meth c s₁ B hml hv
  obtain ⟨rfl, hsz, hP, hK, hE⟩ := hv
  have hx := B.exec
  have hb := B.bytes
  have hr := B.returns
  have hts := atoms_spec (ws := wsX0_liveAll) B.pre
  have hown : s.vm.findClass RX0 = some m.cls := findClass_of_methodNamed B.named
  subst hsz
  have hEv := hEE.1 _ _ _ hE
  have hS : va_S (XA A s.heap.size) s.heap s.heap [] := va_S.rf
  have hG : XG [1, 2, 3, 4, 5, 6, 7, 8, 9, 10, 11, 12, 13, 14, 15] st st := XG.rf hI
  have hl := lv_entry ([.ref (A 4), .ref (A (36 + 20 * i)), .ref (A 10)]) (n := 4) (Nat.le_of_ble_eq_true rfl)
  rw [lg_entry_eq]
  generalize (lg_sl ([.ref (A 4), .ref (A (36 + 20 * i)), .ref (A 10)]) ++ List.replicate (4 - (lg_sl ([.ref (A 4), .ref (A (36 + 20 * i)), .ref (A 10)])).length) Slot.unset).toArray = ls at hl ⊢
  have hl : lv_has ls 4 [(0, .ref (A 4)), (1, .ref (A (36 + 20 * i))), (2, .ref (A 10))] := hl
  have hL : LGq sl sl := LGq.rf
  refine lv_aload_n hx hb dX0_liveAll_0 rfl (lv_at hl 0 rfl) ?_
  refine lv_iconst (v := 0) hx hb dX0_liveAll_1 (by decide) ?_
  refine va_put (D := (dC, dI)) (ci := 1) (v := .int 0) (ty := .int) (C := RX0) (T := TX0) (N := 7) hx hb hts ii_X0_liveAll_X0 tyX0 tyX0_ok nmX0 hown hK hP (xD hN _ _ _ _ _ _) hS 4 (xw_is (r := 4) (by omega) (xc_fix (r := 4) (by omega))) rfl 6 (by decide) (hts _ mm_X0_liveAll_1) (fun _ hh => hh) rfl (by decide +kernel) rfl rfl (Nat.le_of_ble_eq_true rfl) dX0_liveAll_2 (fun H locs hP _ hS => ?_)
  have hP : va_P (dC, dI) vwCl (xw A C nb (up2 st 4 6 0) sl so) H := by rw [← xset (r := 4) (k := 6) (v := 0) (xc_fix (r := 4) (by omega))]; exact hP
  obtain ⟨st1, est1⟩ : ∃ y, y = up2 st 4 6 0 := ⟨_, rfl⟩
  have hG : XG [1, 2, 3, 4, 5, 6, 7, 8, 9, 10, 11, 12, 13, 14, 15] st st1 := by rw [est1]; exact hG.up (xz (r := 4) (k := 6) (by decide : xrg 4 6 = 0)) (xpn (c := 0) (by decide : xcl 4 6 = 0) (by decide))
  rw [← est1] at hP
  refine lv_iconst (v := 0) hx hb dX0_liveAll_5 (by decide) ?_
  refine lv_istore_n (lv' := [(3, .int 0), (0, .ref (A 4)), (1, .ref (A (36 + 20 * i))), (2, .ref (A 10))]) hx hb dX0_liveAll_6 rfl hl (by decide) rfl (fun ls hl => ?_)
  refine zz_wf (fun n stk H locs ls => ∃ k2 : Nat, ∃ st3 : Nat → Nat → Int32, ∃ sl4 : Nat → Nat → Int64, ∃ g5 : Nat, n = 41 - k2 ∧ 0 ≤ k2 ∧ k2 < 41 ∧ g5 < 41 ∧ st3 4 5 = nI g5 ∧ BKs ad st3 so g5 ∧ va_P (dC, dI) vwCl (xw A C nb st3 sl4 so) H ∧ XG [1, 2, 3, 4, 5, 6, 7, 8, 9, 10, 11, 12, 13, 14, 15] st st3 ∧ LGq sl sl4 ∧ va_S (XA A s.heap.size) s.heap H locs ∧ lv_has ls 4 [(3, .int (nI k2)), (0, .ref (A 4)), (1, .ref (A (36 + 20 * i))), (2, .ref (A 10))] ∧ stk = []) ?_ (41 - 0) _ _ _ _ ⟨0, st1, sl, gl, rfl, by omega, by omega, by omega, by rw [est1, up2_ne (r := 4) (k := 6) (a := 4) (j := 5) _ _ (by omega), hgl], BKs.eqf hbk (fun jj hk => by show st1 6 jj = st 6 jj; rw [est1, up2_ne (r := 4) (k := 6) (a := 6) (j := jj) _ _ (by omega)]) (fun jj hk => rfl), hP, hG, hL, hS, lv_sub hl [0, 1, 2, 3] rfl, rfl⟩
  rintro nn stk H locs ls ⟨k2, st3, sl4, g5, hm9, hv6_0, hv7_1, hv8_2, eg5, hv9_0, hP, hG, hL, hS, hl, rfl⟩ ih10
  refine lv_iload_n hx hb dX0_liveAll_7 rfl (lv_at hl 0 rfl) ?_
  refine lv_aload_n hx hb dX0_liveAll_8 rfl (lv_at hl 1 rfl) ?_
  refine va_get (D := (dC, dI)) (ci := 1) (v := .int (st3 4 5)) (C := RX0) (T := TX0) (N := 7) hx hb hts ii_X0_liveAll_X0 hown hK hP 4 (xw_is (r := 4) (by omega) (xc_fix (r := 4) (by omega))) rfl 5 (by decide) (hts _ mm_X0_liveAll_2) (fun _ hh => hh) rfl dX0_liveAll_9 ?_
  refine zz_top (v := (nI g5)) (by show st3 4 5 = _; rw [eg5]) ?_
  refine lv_icmp_ge (tgt := 41) hx hb dX0_liveAll_12 (by decide) (fun c1 => ?_) (fun c1 => ?_)
  · have c1 : g5 ≤ k2 := (nI_leI (a := g5) (b := k2) (by omega) (by omega)).mp c1
    refine lv_aload_n hx hb dX0_liveAll_41 rfl (lv_at hl 1 rfl) ?_
    refine va_get (D := (dC, dI)) (ci := 1) (v := .int (st3 4 5)) (C := RX0) (T := TX0) (N := 7) hx hb hts ii_X0_liveAll_X0 hown hK hP 4 (xw_is (r := 4) (by omega) (xc_fix (r := 4) (by omega))) rfl 5 (by decide) (hts _ mm_X0_liveAll_2) (fun _ hh => hh) rfl dX0_liveAll_42 ?_
    refine zz_top (v := (nI g5)) (by show st3 4 5 = _; rw [eg5]) ?_
    exact W.iret (v := (nI g5)) hx hb hr (fun t ht hW => ⟨⟨(nI g5), (st3, sl4, so), rfl, ⟨hG, hL, rfl, trivial⟩, xB.of ht hP⟩, hS.F ht⟩) hS.2.2 dX0_liveAll_45
  · have c1 : ¬ g5 ≤ k2 := fun hh => c1 ((nI_leI (a := g5) (b := k2) (by omega) (by omega)).mpr hh)
    refine lv_aload_n hx hb dX0_liveAll_15 rfl (lv_at hl 1 rfl) ?_
    refine lv_aload_n hx hb dX0_liveAll_16 rfl (lv_at hl 1 rfl) ?_
    refine lv_iload_n hx hb dX0_liveAll_17 rfl (lv_at hl 0 rfl) ?_
    refine lv_aload_n hx hb dX0_liveAll_18 rfl (lv_at hl 2 rfl) ?_
    refine lv_aload_n hx hb dX0_liveAll_19 rfl (lv_at hl 3 rfl) ?_
    refine va_calli (va_runV (As := [.int (nI k2), .ref (A (36 + 20 * i)), .ref (A 10)]) (rest := [.ref (A 4)]) ⟨hx, hb, hml, hown, hts⟩ (x_X0_liveLine l dC dI ad E hEE A C nb _ hN st3 sl4 so k2 i (by omega) (by omega) hG.1 hOI (hv9_0 _ (by omega))) (cwV 3 hts gX0_liveAll_X0_liveLine rfl rfl rfl (by decide +kernel) ⟨Nat.le_of_ble_eq_true rfl, Nat.le_of_ble_eq_true rfl⟩) ⟨fun a U g mk q => ⟨q.1, xPre.blind hEE q.2⟩, va_recv hK hP (ci := 1) (q0 := 4) rfl (xw_is (r := 4) (by omega) (xc_fix (r := 4) (by omega))), fun U hU hW => ⟨rfl, xPre.of hEE hP hK hE hS hU hW⟩⟩ rfl rfl hl.1 rfl (lv_room (Nat.le_of_ble_eq_true rfl)) dX0_liveAll_20 ⟨Nat.le_of_ble_eq_true rfl, Nat.le_of_ble_eq_true rfl⟩) hS (fun q _ h => XA.le hS.1 q h) (XA.le hS.1) (fun r11 x t H locs ht hvm hw hB _ _ hS => ?_)
    have hP := xB.at ht hB
    clear hB ht hvm
    obtain ⟨st12, sl13, so14⟩ := x
    obtain ⟨hGst12, hLGst12, hOst12, hw⟩ := hw
    dsimp only at hGst12 hLGst12 hOst12 hw
    have hL : LGq sl sl13 := hL.tr hLGst12
    replace hOst12 := hOst12.symm
    subst hOst12
    have hP : va_P (dC, dI) vwCl (xw A C nb st12 sl13 so) _ := hP
    have hG : XG [1, 2, 3, 4, 5, 6, 7, 8, 9, 10, 11, 12, 13, 14, 15] st st12 := hG.tr hGst12 (by decide)
    clear hw
    refine va_put (D := (dC, dI)) (ci := 1) (v := .int r11) (ty := .int) (C := RX0) (T := TX0) (N := 7) hx hb hts ii_X0_liveAll_X0 tyX0 tyX0_ok nmX0 hown hK hP (xD hN _ _ _ _ _ _) hS 4 (xw_is (r := 4) (by omega) (xc_fix (r := 4) (by omega))) rfl 6 (by decide) (hts _ mm_X0_liveAll_1) (fun _ hh => hh) rfl (by decide +kernel) rfl rfl (Nat.le_of_ble_eq_true rfl) dX0_liveAll_23 (fun H locs hP _ hS => ?_)
    have hP : va_P (dC, dI) vwCl (xw A C nb (up2 st12 4 6 r11) sl13 so) H := by rw [← xset (r := 4) (k := 6) (v := r11) (xc_fix (r := 4) (by omega))]; exact hP
    obtain ⟨st15, est15⟩ : ∃ y, y = up2 st12 4 6 r11 := ⟨_, rfl⟩
    have hG : XG [1, 2, 3, 4, 5, 6, 7, 8, 9, 10, 11, 12, 13, 14, 15] st st15 := by rw [est15]; exact hG.up (xz (r := 4) (k := 6) (by decide : xrg 4 6 = 0)) (xpn (c := 0) (by decide : xcl 4 6 = 0) (by decide))
    rw [← est15] at hP
    refine lv_aload_n hx hb dX0_liveAll_26 rfl (lv_at hl 1 rfl) ?_
    refine va_get (D := (dC, dI)) (ci := 1) (v := .int (st15 4 6)) (C := RX0) (T := TX0) (N := 7) hx hb hts ii_X0_liveAll_X0 hown hK hP 4 (xw_is (r := 4) (by omega) (xc_fix (r := 4) (by omega))) rfl 6 (by decide) (hts _ mm_X0_liveAll_1) (fun _ hh => hh) rfl dX0_liveAll_27 ?_
    refine zz_top (v := r11) (by show st15 4 6 = _; rw [est15, up2_same]) ?_
    refine lv_if_eq (tgt := 35) hx hb dX0_liveAll_30 (by decide) (fun c2 => ?_) (fun c2 => ?_)
    · refine lv_iinc (v := (nI (k2 + 1))) (lv' := [(3, .int (nI (k2 + 1))), (0, .ref (A 4)), (1, .ref (A (36 + 20 * i))), (2, .ref (A 10))]) hx hb dX0_liveAll_35 hl (k := 0) rfl (nI_add k2 1) (by decide) rfl (fun ls hl => ?_)
      refine lv_goto (tgt := 7) hx hb dX0_liveAll_38 (by decide) ?_
      exact ih10 (41 - (k2 + 1)) _ _ _ _ (by omega) ⟨(k2 + 1), st15, sl13, g5, rfl, by omega, by omega, by omega, by rw [est15, up2_ne (r := 4) (k := 6) (a := 4) (j := 5) _ _ (by omega), hGst12.2 4 5 (by rw [(by decide : xcl 4 5 = 6)]; decide), eg5], BKs.eqf hv9_0 (fun jj hk => by show st15 6 jj = st3 6 jj; rw [est15, up2_ne (r := 4) (k := 6) (a := 6) (j := jj) _ _ (by omega), hGst12.2 6 jj (by rw [(by unfold xcl; rfl : xcl 6 jj = 3)]; decide)]) (fun jj hk => rfl), hP, hG, hL, hS, lv_sub hl [0, 1, 2, 3] rfl, rfl⟩
    · refine lv_iload_n hx hb dX0_liveAll_33 rfl (lv_at hl 0 rfl) ?_
      exact W.iret (v := (nI k2)) hx hb hr (fun t ht hW => ⟨⟨(nI k2), (st15, sl13, so), rfl, ⟨hG, hL, rfl, trivial⟩, xB.of ht hP⟩, hS.F ht⟩) hS.2.2 dX0_liveAll_34
