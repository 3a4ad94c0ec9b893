set_option maxHeartbeats 4000000 in
set_option maxRecDepth 100000 in
theorem x_X0_mayBegin (l : Launch) (dC : Nat → ClassId) (dI : Nat → Nat → Nat) (ad : Nat → Nat) (E : EP) (hEE : EC ad E) (A : Nat → Nat) (C : Nat → ClassId) (nb sz : Nat) (hN : XN A) (st : Nat → Nat → Int32) (sl : Nat → Nat → Int64) (so : Nat → XR) (gl : Nat) (hI : XI st) (hOI : OI ad so) (hgl : st 4 5 = nI gl) (hgl2 : gl < 41) : Met l yX0_mayBegin wsX0_mayBegin ({ frames := 1, cells := 0, slots := 0, locals := 27 }) (va_Pc [.ref (A 4), .ref (A 1), .ref (A (36 + 20 * 0))] (xPre E dC dI A C nb sz st sl so)) (va_Qi (fun (r : Int32) (x : XT) => XG [1, 2, 3, 4, 5, 6, 7, 8, 9, 11, 12, 13, 14, 15] st x.1 ∧ LGq sl x.2.1 ∧ x.2.2 = so ∧ ((∃ j : Nat, r = 1 ∧ so 1 7 = some (ad j) ∧ j < 26 ∧ (j = 24 ∨ j = 5 ∨ j = 6 ∨ j = 7 ∨ j = 8 ∨ j = 12) ∧ gl < 40) ∨ (r = 0))) (xB dC dI A C nb) (XA A sz)) 0 0 (XA A sz) := by
  refine Met.ofW (cc := cX0_mayBegin) (maxL := 4) (ret := (some .boolean)) (by decide) rfl ?_
  intro p e s m args below meth c s₁ B hml hv
  obtain ⟨rfl, hsz, hP, hK, hE⟩ := hv
  have hx := B.exec
  have hb := B.bytes
  have hr := B.returns
  have hts := atoms_spec (ws := wsX0_mayBegin) B.pre
  have hown : s.vm.findClass RX0 = some m.cls := findClass_of_methodNamed B.named
  subst hsz
  have hEv := hEE.1 _ _ _ hE
  have hS : va_S (XA A s.heap.size) s.heap s.heap [] := va_S.rf
  have hG : XG [1, 2, 3, 4, 5, 6, 7, 8, 9, 11, 12, 13, 14, 15] st st := XG.rf hI
  have hl := lv_entry ([.ref (A 4), .ref (A 1), .ref (A (36 + 20 * 0))]) (n := 4) (Nat.le_of_ble_eq_true rfl)
  rw [lg_entry_eq]
  generalize (lg_sl ([.ref (A 4), .ref (A 1), .ref (A (36 + 20 * 0))]) ++ List.replicate (4 - (lg_sl ([.ref (A 4), .ref (A 1), .ref (A (36 + 20 * 0))])).length) Slot.unset).toArray = ls at hl ⊢
  have hl : lv_has ls 4 [(0, .ref (A 4)), (1, .ref (A 1)), (2, .ref (A (36 + 20 * 0)))] := hl
  have hL : LGq sl sl := LGq.rf
  refine lv_aload_n hx hb dX0_mayBegin_0 rfl (lv_at hl 1 rfl) ?_
  refine va_getN (host := "OffTheLead") (D := (dC, dI)) (ci := 9) (v := va_rf (so 1 7)) (C := RX8) (T := TX8) (N := 15) hx hb hts ii_X0_mayBegin_X8 hown hK hP 1 (xw_is (r := 1) (by omega) (xc_fix (r := 1) (by omega))) rfl 7 (by decide) (va_Nw.use rfl (nf_X0_50 hEv)) (fun _ hh => hh) rfl dX0_mayBegin_1 ?_
  obtain ⟨j1, hj1, ej1⟩ := hOI.2
  refine zz_topq (r := some (ad j1)) (by rw [ej1]) ?_
  refine lv_astore_n (lv' := [(3, .ref (ad j1)), (0, .ref (A 4)), (1, .ref (A 1)), (2, .ref (A (36 + 20 * 0)))]) hx hb dX0_mayBegin_4 rfl hl (by decide) rfl (fun ls hl => ?_)
  refine lv_aload_n hx hb dX0_mayBegin_5 rfl (lv_at hl 0 rfl) ?_
  refine va_gets (v := .ref (ad 24)) hx hb (EV.word hEv (i := 24) (by decide)) hS hown (hts _ mm_X0_mayBegin_1) (fun _ hh => hh) dX0_mayBegin_6 ?_
  refine lv_acmp_ne (rx := (some (ad j1))) (ry := (some (ad 24))) (tgt := 44) hx hb dX0_mayBegin_9 (by decide) (fun c1 => ?_) (fun c1 => ?_)
  · have c1 : ¬ j1 = 24 := fun hh => c1 ((EV.eqw hEv (i := j1) (j := 24) (by omega) (by omega)).mpr hh)
    refine lv_aload_n hx hb dX0_mayBegin_44 rfl (lv_at hl 0 rfl) ?_
    refine va_gets (v := .ref (ad 6)) hx hb (EV.word hEv (i := 6) (by decide)) hS hown (hts _ mm_X0_mayBegin_2) (fun _ hh => hh) dX0_mayBegin_45 ?_
    refine lv_acmp_eq (rx := (some (ad j1))) (ry := (some (ad 6))) (tgt := 85) hx hb dX0_mayBegin_48 (by decide) (fun c2 => ?_) (fun c2 => ?_)
    · have c2 : j1 = 6 := (EV.eqw hEv (i := j1) (j := 6) (by omega) (by omega)).mp c2
      refine lv_aload_n hx hb dX0_mayBegin_85 rfl (lv_at hl 1 rfl) ?_
      refine va_get (D := (dC, dI)) (ci := 1) (v := .int (st 4 5)) (C := RX0) (T := TX0) (N := 7) hx hb hts ii_X0_mayBegin_X0 hown hK hP 4 (xw_is (r := 4) (by omega) (xc_fix (r := 4) (by omega))) rfl 5 (by decide) (hts _ mm_X0_mayBegin_7) (fun _ hh => hh) rfl dX0_mayBegin_86 ?_
      refine zz_top (v := (nI gl)) (by show st 4 5 = _; rw [hgl]) ?_
      refine lv_bipush (v := 40) hx hb dX0_mayBegin_89 (by decide) ?_
      refine lv_icmp_lt (tgt := 102) hx hb dX0_mayBegin_91 (by decide) (fun c3 => ?_) (fun c3 => ?_)
      · have c3 : gl < 40 := (nI_ltI (a := gl) (b := 40) (by omega) (by omega)).mp c3
        refine lv_iconst (v := 1) hx hb dX0_mayBegin_102 (by decide) ?_
        refine lv_goto (tgt := 107) hx hb dX0_mayBegin_103 (by decide) ?_
        exact W.zret (v := 1) hx hb hr rfl (fun t ht hW => ⟨⟨1, (st, sl, so), rfl, ⟨hG, hL, rfl, Or.inl ⟨j1, rfl, by rw [ej1], by omega, by omega, by omega⟩⟩, xB.of ht hP⟩, hS.F ht⟩) hS.2.2 dX0_mayBegin_107
      · have c3 : ¬ gl < 40 := fun hh => c3 ((nI_ltI (a := gl) (b := 40) (by omega) (by omega)).mpr hh)
        refine lv_aload_n hx hb dX0_mayBegin_94 rfl (lv_at hl 2 rfl) ?_
        refine lv_iconst (v := 4) hx hb dX0_mayBegin_95 (by decide) ?_
        refine va_calli (va_runV (As := [.int 4]) (rest := []) ⟨hx, hb, hml, hown, hts⟩ (x_X8_refuse l dC dI ad E hEE A C nb _ hN st sl so 4  hG.1) (cwV 1 hts gX0_mayBegin_X8_refuse rfl rfl rfl (by decide +kernel) ⟨Nat.le_of_ble_eq_true rfl, Nat.le_of_ble_eq_true rfl⟩) ⟨fun a U g mk q => ⟨q.1, xPre.blind hEE q.2⟩, va_recv hK hP (ci := 9) (q0 := 1) rfl (xw_is (r := 1) (by omega) (xc_fix (r := 1) (by omega))), fun U hU hW => ⟨rfl, xPre.of hEE hP hK hE hS hU hW⟩⟩ rfl rfl hl.1 rfl (lv_room (Nat.le_of_ble_eq_true rfl)) dX0_mayBegin_96 ⟨Nat.le_of_ble_eq_true rfl, Nat.le_of_ble_eq_true rfl⟩) hS (fun q _ h => XA.le hS.1 q h) (XA.le hS.1) (fun r2 x t H locs ht hvm hw hB _ _ hS => ?_)
        have hP := xB.at ht hB
        clear hB ht hvm
        obtain ⟨st3, sl4, so5⟩ := x
        obtain ⟨hGst3, hLGst3, hOst3, hw⟩ := hw
        dsimp only at hGst3 hLGst3 hOst3 hw
        have hL : LGq sl sl4 := hL.tr hLGst3
        replace hOst3 := hOst3.symm
        subst hOst3
        have hP : va_P (dC, dI) vwCl (xw A C nb st3 sl4 so) _ := hP
        have hG : XG [1, 2, 3, 4, 5, 6, 7, 8, 9, 11, 12, 13, 14, 15] st st3 := hG.tr hGst3 (by decide)
        obtain ⟨rfl, hf6⟩ := hw
        refine lv_if_eq (tgt := 106) hx hb dX0_mayBegin_99 (by decide) (fun _ => ?_) (fun cc => absurd (by decide) cc)
        refine lv_iconst (v := 0) hx hb dX0_mayBegin_106 (by decide) ?_
        exact W.zret (v := 0) hx hb hr rfl (fun t ht hW => ⟨⟨0, (st3, sl4, so), rfl, ⟨hG, hL, rfl, Or.inr rfl⟩, xB.of ht hP⟩, hS.F ht⟩) hS.2.2 dX0_mayBegin_107
    · have c2 : ¬ j1 = 6 := fun hh => c2 ((EV.eqw hEv (i := j1) (j := 6) (by omega) (by omega)).mpr hh)
      refine lv_aload_n hx hb dX0_mayBegin_51 rfl (lv_at hl 0 rfl) ?_
      refine va_gets (v := .ref (ad 7)) hx hb (EV.word hEv (i := 7) (by decide)) hS hown (hts _ mm_X0_mayBegin_3) (fun _ hh => hh) dX0_mayBegin_52 ?_
      refine lv_acmp_eq (rx := (some (ad j1))) (ry := (some (ad 7))) (tgt := 85) hx hb dX0_mayBegin_55 (by decide) (fun c5 => ?_) (fun c5 => ?_)
      · have c5 : j1 = 7 := (EV.eqw hEv (i := j1) (j := 7) (by omega) (by omega)).mp c5
        refine lv_aload_n hx hb dX0_mayBegin_85 rfl (lv_at hl 1 rfl) ?_
        refine va_get (D := (dC, dI)) (ci := 1) (v := .int (st 4 5)) (C := RX0) (T := TX0) (N := 7) hx hb hts ii_X0_mayBegin_X0 hown hK hP 4 (xw_is (r := 4) (by omega) (xc_fix (r := 4) (by omega))) rfl 5 (by decide) (hts _ mm_X0_mayBegin_7) (fun _ hh => hh) rfl dX0_mayBegin_86 ?_
        refine zz_top (v := (nI gl)) (by show st 4 5 = _; rw [hgl]) ?_
        refine lv_bipush (v := 40) hx hb dX0_mayBegin_89 (by decide) ?_
        refine lv_icmp_lt (tgt := 102) hx hb dX0_mayBegin_91 (by decide) (fun c6 => ?_) (fun c6 => ?_)
        · have c6 : gl < 40 := (nI_ltI (a := gl) (b := 40) (by omega) (by omega)).mp c6
          refine lv_iconst (v := 1) hx hb dX0_mayBegin_102 (by decide) ?_
          refine lv_goto (tgt := 107) hx hb dX0_mayBegin_103 (by decide) ?_
          exact W.zret (v := 1) hx hb hr rfl (fun t ht hW => ⟨⟨1, (st, sl, so), rfl, ⟨hG, hL, rfl, Or.inl ⟨j1, rfl, by rw [ej1], by omega, by omega, by omega⟩⟩, xB.of ht hP⟩, hS.F ht⟩) hS.2.2 dX0_mayBegin_107
        · have c6 : ¬ gl < 40 := fun hh => c6 ((nI_ltI (a := gl) (b := 40) (by omega) (by omega)).mpr hh)
          refine lv_aload_n hx hb dX0_mayBegin_94 rfl (lv_at hl 2 rfl) ?_
          refine lv_iconst (v := 4) hx hb dX0_mayBegin_95 (by decide) ?_
          refine va_calli (va_runV (As := [.int 4]) (rest := []) ⟨hx, hb, hml, hown, hts⟩ (x_X8_refuse l dC dI ad E hEE A C nb _ hN st sl so 4  hG.1) (cwV 1 hts gX0_mayBegin_X8_refuse rfl rfl rfl (by decide +kernel) ⟨Nat.le_of_ble_eq_true rfl, Nat.le_of_ble_eq_true rfl⟩) ⟨fun a U g mk q => ⟨q.1, xPre.blind hEE q.2⟩, va_recv hK hP (ci := 9) (q0 := 1) rfl (xw_is (r := 1) (by omega) (xc_fix (r := 1) (by omega))), fun U hU hW => ⟨rfl, xPre.of hEE hP hK hE hS hU hW⟩⟩ rfl rfl hl.1 rfl (lv_room (Nat.le_of_ble_eq_true rfl)) dX0_mayBegin_96 ⟨Nat.le_of_ble_eq_true rfl, Nat.le_of_ble_eq_true rfl⟩) hS (fun q _ h => XA.le hS.1 q h) (XA.le hS.1) (fun r7 x t H locs ht hvm hw hB _ _ hS => ?_)
          have hP := xB.at ht hB
          clear hB ht hvm
          obtain ⟨st8, sl9, so10⟩ := x
          obtain ⟨hGst8, hLGst8, hOst8, hw⟩ := hw
          dsimp only at hGst8 hLGst8 hOst8 hw
          have hL : LGq sl sl9 := hL.tr hLGst8
          replace hOst8 := hOst8.symm
          subst hOst8
          have hP : va_P (dC, dI) vwCl (xw A C nb st8 sl9 so) _ := hP
          have hG : XG [1, 2, 3, 4, 5, 6, 7, 8, 9, 11, 12, 13, 14, 15] st st8 := hG.tr hGst8 (by decide)
          obtain ⟨rfl, hf11⟩ := hw
          refine lv_if_eq (tgt := 106) hx hb dX0_mayBegin_99 (by decide) (fun _ => ?_) (fun cc => absurd (by decide) cc)
          refine lv_iconst (v := 0) hx hb dX0_mayBegin_106 (by decide) ?_
          exact W.zret (v := 0) hx hb hr rfl (fun t ht hW => ⟨⟨0, (st8, sl9, so), rfl, ⟨hG, hL, rfl, Or.inr rfl⟩, xB.of ht hP⟩, hS.F ht⟩) hS.2.2 dX0_mayBegin_107
      · have c5 : ¬ j1 = 7 := fun hh => c5 ((EV.eqw hEv (i := j1) (j := 7) (by omega) (by omega)).mpr hh)
        refine lv_aload_n hx hb dX0_mayBegin_58 rfl (lv_at hl 0 rfl) ?_
        refine va_gets (v := .ref (ad 8)) hx hb (EV.word hEv (i := 8) (by decide)) hS hown (hts _ mm_X0_mayBegin_4) (fun _ hh => hh) dX0_mayBegin_59 ?_
        refine lv_acmp_eq (rx := (some (ad j1))) (ry := (some (ad 8))) (tgt := 85) hx hb dX0_mayBegin_62 (by decide) (fun c8 => ?_) (fun c8 => ?_)
        · have c8 : j1 = 8 := (EV.eqw hEv (i := j1) (j := 8) (by omega) (by omega)).mp c8
          refine lv_aload_n hx hb dX0_mayBegin_85 rfl (lv_at hl 1 rfl) ?_
          refine va_get (D := (dC, dI)) (ci := 1) (v := .int (st 4 5)) (C := RX0) (T := TX0) (N := 7) hx hb hts ii_X0_mayBegin_X0 hown hK hP 4 (xw_is (r := 4) (by omega) (xc_fix (r := 4) (by omega))) rfl 5 (by decide) (hts _ mm_X0_mayBegin_7) (fun _ hh => hh) rfl dX0_mayBegin_86 ?_
          refine zz_top (v := (nI gl)) (by show st 4 5 = _; rw [hgl]) ?_
          refine lv_bipush (v := 40) hx hb dX0_mayBegin_89 (by decide) ?_
          refine lv_icmp_lt (tgt := 102) hx hb dX0_mayBegin_91 (by decide) (fun c9 => ?_) (fun c9 => ?_)
          · have c9 : gl < 40 := (nI_ltI (a := gl) (b := 40) (by omega) (by omega)).mp c9
            refine lv_iconst (v := 1) hx hb dX0_mayBegin_102 (by decide) ?_
            refine lv_goto (tgt := 107) hx hb dX0_mayBegin_103 (by decide) ?_
            exact W.zret (v := 1) hx hb hr rfl (fun t ht hW => ⟨⟨1, (st, sl, so), rfl, ⟨hG, hL, rfl, Or.inl ⟨j1, rfl, by rw [ej1], by omega, by omega, by omega⟩⟩, xB.of ht hP⟩, hS.F ht⟩) hS.2.2 dX0_mayBegin_107
          · have c9 : ¬ gl < 40 := fun hh => c9 ((nI_ltI (a := gl) (b := 40) (by omega) (by omega)).mpr hh)
            refine lv_aload_n hx hb dX0_mayBegin_94 rfl (lv_at hl 2 rfl) ?_
            refine lv_iconst (v := 4) hx hb dX0_mayBegin_95 (by decide) ?_
            refine va_calli (va_runV (As := [.int 4]) (rest := []) ⟨hx, hb, hml, hown, hts⟩ (x_X8_refuse l dC dI ad E hEE A C nb _ hN st sl so 4  hG.1) (cwV 1 hts gX0_mayBegin_X8_refuse rfl rfl rfl (by decide +kernel) ⟨Nat.le_of_ble_eq_true rfl, Nat.le_of_ble_eq_true rfl⟩) ⟨fun a U g mk q => ⟨q.1, xPre.blind hEE q.2⟩, va_recv hK hP (ci := 9) (q0 := 1) rfl (xw_is (r := 1) (by omega) (xc_fix (r := 1) (by omega))), fun U hU hW => ⟨rfl, xPre.of hEE hP hK hE hS hU hW⟩⟩ rfl rfl hl.1 rfl (lv_room (Nat.le_of_ble_eq_true rfl)) dX0_mayBegin_96 ⟨Nat.le_of_ble_eq_true rfl, Nat.le_of_ble_eq_true rfl⟩) hS (fun q _ h => XA.le hS.1 q h) (XA.le hS.1) (fun r12 x t H locs ht hvm hw hB _ _ hS => ?_)
            have hP := xB.at ht hB
            clear hB ht hvm
            obtain ⟨st13, sl14, so15⟩ := x
            obtain ⟨hGst13, hLGst13, hOst13, hw⟩ := hw
            dsimp only at hGst13 hLGst13 hOst13 hw
            have hL : LGq sl sl14 := hL.tr hLGst13
            replace hOst13 := hOst13.symm
            subst hOst13
            have hP : va_P (dC, dI) vwCl (xw A C nb st13 sl14 so) _ := hP
            have hG : XG [1, 2, 3, 4, 5, 6, 7, 8, 9, 11, 12, 13, 14, 15] st st13 := hG.tr hGst13 (by decide)
            obtain ⟨rfl, hf16⟩ := hw
            refine lv_if_eq (tgt := 106) hx hb dX0_mayBegin_99 (by decide) (fun _ => ?_) (fun cc => absurd (by decide) cc)
            refine lv_iconst (v := 0) hx hb dX0_mayBegin_106 (by decide) ?_
            exact W.zret (v := 0) hx hb hr rfl (fun t ht hW => ⟨⟨0, (st13, sl14, so), rfl, ⟨hG, hL, rfl, Or.inr rfl⟩, xB.of ht hP⟩, hS.F ht⟩) hS.2.2 dX0_mayBegin_107
        · have c8 : ¬ j1 = 8 := fun hh => c8 ((EV.eqw hEv (i := j1) (j := 8) (by omega) (by omega)).mpr hh)
          refine lv_aload_n hx hb dX0_mayBegin_65 rfl (lv_at hl 0 rfl) ?_
          refine va_gets (v := .ref (ad 5)) hx hb (EV.word hEv (i := 5) (by decide)) hS hown (hts _ mm_X0_mayBegin_5) (fun _ hh => hh) dX0_mayBegin_66 ?_
          refine lv_acmp_eq (rx := (some (ad j1))) (ry := (some (ad 5))) (tgt := 85) hx hb dX0_mayBegin_69 (by decide) (fun c11 => ?_) (fun c11 => ?_)
          · have c11 : j1 = 5 := (EV.eqw hEv (i := j1) (j := 5) (by omega) (by omega)).mp c11
            refine lv_aload_n hx hb dX0_mayBegin_85 rfl (lv_at hl 1 rfl) ?_
            refine va_get (D := (dC, dI)) (ci := 1) (v := .int (st 4 5)) (C := RX0) (T := TX0) (N := 7) hx hb hts ii_X0_mayBegin_X0 hown hK hP 4 (xw_is (r := 4) (by omega) (xc_fix (r := 4) (by omega))) rfl 5 (by decide) (hts _ mm_X0_mayBegin_7) (fun _ hh => hh) rfl dX0_mayBegin_86 ?_
            refine zz_top (v := (nI gl)) (by show st 4 5 = _; rw [hgl]) ?_
            refine lv_bipush (v := 40) hx hb dX0_mayBegin_89 (by decide) ?_
            refine lv_icmp_lt (tgt := 102) hx hb dX0_mayBegin_91 (by decide) (fun c12 => ?_) (fun c12 => ?_)
            · have c12 : gl < 40 := (nI_ltI (a := gl) (b := 40) (by omega) (by omega)).mp c12
              refine lv_iconst (v := 1) hx hb dX0_mayBegin_102 (by decide) ?_
              refine lv_goto (tgt := 107) hx hb dX0_mayBegin_103 (by decide) ?_
              exact W.zret (v := 1) hx hb hr rfl (fun t ht hW => ⟨⟨1, (st, sl, so), rfl, ⟨hG, hL, rfl, Or.inl ⟨j1, rfl, by rw [ej1], by omega, by omega, by omega⟩⟩, xB.of ht hP⟩, hS.F ht⟩) hS.2.2 dX0_mayBegin_107
            · have c12 : ¬ gl < 40 := fun hh => c12 ((nI_ltI (a := gl) (b := 40) (by omega) (by omega)).mpr hh)
              refine lv_aload_n hx hb dX0_mayBegin_94 rfl (lv_at hl 2 rfl) ?_
              refine lv_iconst (v := 4) hx hb dX0_mayBegin_95 (by decide) ?_
              refine va_calli (va_runV (As := [.int 4]) (rest := []) ⟨hx, hb, hml, hown, hts⟩ (x_X8_refuse l dC dI ad E hEE A C nb _ hN st sl so 4  hG.1) (cwV 1 hts gX0_mayBegin_X8_refuse rfl rfl rfl (by decide +kernel) ⟨Nat.le_of_ble_eq_true rfl, Nat.le_of_ble_eq_true rfl⟩) ⟨fun a U g mk q => ⟨q.1, xPre.blind hEE q.2⟩, va_recv hK hP (ci := 9) (q0 := 1) rfl (xw_is (r := 1) (by omega) (xc_fix (r := 1) (by omega))), fun U hU hW => ⟨rfl, xPre.of hEE hP hK hE hS hU hW⟩⟩ rfl rfl hl.1 rfl (lv_room (Nat.le_of_ble_eq_true rfl)) dX0_mayBegin_96 ⟨Nat.le_of_ble_eq_true rfl, Nat.le_of_ble_eq_true rfl⟩) hS (fun q _ h => XA.le hS.1 q h) (XA.le hS.1) (fun r17 x t H locs ht hvm hw hB _ _ hS => ?_)
              have hP := xB.at ht hB
              clear hB ht hvm
              obtain ⟨st18, sl19, so20⟩ := x
              obtain ⟨hGst18, hLGst18, hOst18, hw⟩ := hw
              dsimp only at hGst18 hLGst18 hOst18 hw
              have hL : LGq sl sl19 := hL.tr hLGst18
              replace hOst18 := hOst18.symm
              subst hOst18
              have hP : va_P (dC, dI) vwCl (xw A C nb st18 sl19 so) _ := hP
              have hG : XG [1, 2, 3, 4, 5, 6, 7, 8, 9, 11, 12, 13, 14, 15] st st18 := hG.tr hGst18 (by decide)
              obtain ⟨rfl, hf21⟩ := hw
              refine lv_if_eq (tgt := 106) hx hb dX0_mayBegin_99 (by decide) (fun _ => ?_) (fun cc => absurd (by decide) cc)
              refine lv_iconst (v := 0) hx hb dX0_mayBegin_106 (by decide) ?_
              exact W.zret (v := 0) hx hb hr rfl (fun t ht hW => ⟨⟨0, (st18, sl19, so), rfl, ⟨hG, hL, rfl, Or.inr rfl⟩, xB.of ht hP⟩, hS.F ht⟩) hS.2.2 dX0_mayBegin_107
          · have c11 : ¬ j1 = 5 := fun hh => c11 ((EV.eqw hEv (i := j1) (j := 5) (by omega) (by omega)).mpr hh)
            refine lv_aload_n hx hb dX0_mayBegin_72 rfl (lv_at hl 0 rfl) ?_
            refine va_gets (v := .ref (ad 12)) hx hb (EV.word hEv (i := 12) (by decide)) hS hown (hts _ mm_X0_mayBegin_6) (fun _ hh => hh) dX0_mayBegin_73 ?_
            refine lv_acmp_eq (rx := (some (ad j1))) (ry := (some (ad 12))) (tgt := 85) hx hb dX0_mayBegin_76 (by decide) (fun c14 => ?_) (fun c14 => ?_)
            · have c14 : j1 = 12 := (EV.eqw hEv (i := j1) (j := 12) (by omega) (by omega)).mp c14
              refine lv_aload_n hx hb dX0_mayBegin_85 rfl (lv_at hl 1 rfl) ?_
              refine va_get (D := (dC, dI)) (ci := 1) (v := .int (st 4 5)) (C := RX0) (T := TX0) (N := 7) hx hb hts ii_X0_mayBegin_X0 hown hK hP 4 (xw_is (r := 4) (by omega) (xc_fix (r := 4) (by omega))) rfl 5 (by decide) (hts _ mm_X0_mayBegin_7) (fun _ hh => hh) rfl dX0_mayBegin_86 ?_
              refine zz_top (v := (nI gl)) (by show st 4 5 = _; rw [hgl]) ?_
              refine lv_bipush (v := 40) hx hb dX0_mayBegin_89 (by decide) ?_
              refine lv_icmp_lt (tgt := 102) hx hb dX0_mayBegin_91 (by decide) (fun c15 => ?_) (fun c15 => ?_)
              · have c15 : gl < 40 := (nI_ltI (a := gl) (b := 40) (by omega) (by omega)).mp c15
                refine lv_iconst (v := 1) hx hb dX0_mayBegin_102 (by decide) ?_
                refine lv_goto (tgt := 107) hx hb dX0_mayBegin_103 (by decide) ?_
                exact W.zret (v := 1) hx hb hr rfl (fun t ht hW => ⟨⟨1, (st, sl, so), rfl, ⟨hG, hL, rfl, Or.inl ⟨j1, rfl, by rw [ej1], by omega, by omega, by omega⟩⟩, xB.of ht hP⟩, hS.F ht⟩) hS.2.2 dX0_mayBegin_107
              · have c15 : ¬ gl < 40 := fun hh => c15 ((nI_ltI (a := gl) (b := 40) (by omega) (by omega)).mpr hh)
                refine lv_aload_n hx hb dX0_mayBegin_94 rfl (lv_at hl 2 rfl) ?_
                refine lv_iconst (v := 4) hx hb dX0_mayBegin_95 (by decide) ?_
                refine va_calli (va_runV (As := [.int 4]) (rest := []) ⟨hx, hb, hml, hown, hts⟩ (x_X8_refuse l dC dI ad E hEE A C nb _ hN st sl so 4  hG.1) (cwV 1 hts gX0_mayBegin_X8_refuse rfl rfl rfl (by decide +kernel) ⟨Nat.le_of_ble_eq_true rfl, Nat.le_of_ble_eq_true rfl⟩) ⟨fun a U g mk q => ⟨q.1, xPre.blind hEE q.2⟩, va_recv hK hP (ci := 9) (q0 := 1) rfl (xw_is (r := 1) (by omega) (xc_fix (r := 1) (by omega))), fun U hU hW => ⟨rfl, xPre.of hEE hP hK hE hS hU hW⟩⟩ rfl rfl hl.1 rfl (lv_room (Nat.le_of_ble_eq_true rfl)) dX0_mayBegin_96 ⟨Nat.le_of_ble_eq_true rfl, Nat.le_of_ble_eq_true rfl⟩) hS (fun q _ h => XA.le hS.1 q h) (XA.le hS.1) (fun r22 x t H locs ht hvm hw hB _ _ hS => ?_)
                have hP := xB.at ht hB
                clear hB ht hvm
                obtain ⟨st23, sl24, so25⟩ := x
                obtain ⟨hGst23, hLGst23, hOst23, hw⟩ := hw
                dsimp only at hGst23 hLGst23 hOst23 hw
                have hL : LGq sl sl24 := hL.tr hLGst23
                replace hOst23 := hOst23.symm
                subst hOst23
                have hP : va_P (dC, dI) vwCl (xw A C nb st23 sl24 so) _ := hP
                have hG : XG [1, 2, 3, 4, 5, 6, 7, 8, 9, 11, 12, 13, 14, 15] st st23 := hG.tr hGst23 (by decide)
                obtain ⟨rfl, hf26⟩ := hw
                refine lv_if_eq (tgt := 106) hx hb dX0_mayBegin_99 (by decide) (fun _ => ?_) (fun cc => absurd (by decide) cc)
                refine lv_iconst (v := 0) hx hb dX0_mayBegin_106 (by decide) ?_
                exact W.zret (v := 0) hx hb hr rfl (fun t ht hW => ⟨⟨0, (st23, sl24, so), rfl, ⟨hG, hL, rfl, Or.inr rfl⟩, xB.of ht hP⟩, hS.F ht⟩) hS.2.2 dX0_mayBegin_107
            · have c14 : ¬ j1 = 12 := fun hh => c14 ((EV.eqw hEv (i := j1) (j := 12) (by omega) (by omega)).mpr hh)
              refine lv_aload_n hx hb dX0_mayBegin_79 rfl (lv_at hl 2 rfl) ?_
              refine lv_iconst (v := 1) hx hb dX0_mayBegin_80 (by decide) ?_
              refine va_calli (va_runV (As := [.int 1]) (rest := []) ⟨hx, hb, hml, hown, hts⟩ (x_X8_refuse l dC dI ad E hEE A C nb _ hN st sl so 1  hG.1) (cwV 1 hts gX0_mayBegin_X8_refuse rfl rfl rfl (by decide +kernel) ⟨Nat.le_of_ble_eq_true rfl, Nat.le_of_ble_eq_true rfl⟩) ⟨fun a U g mk q => ⟨q.1, xPre.blind hEE q.2⟩, va_recv hK hP (ci := 9) (q0 := 1) rfl (xw_is (r := 1) (by omega) (xc_fix (r := 1) (by omega))), fun U hU hW => ⟨rfl, xPre.of hEE hP hK hE hS hU hW⟩⟩ rfl rfl hl.1 rfl (lv_room (Nat.le_of_ble_eq_true rfl)) dX0_mayBegin_81 ⟨Nat.le_of_ble_eq_true rfl, Nat.le_of_ble_eq_true rfl⟩) hS (fun q _ h => XA.le hS.1 q h) (XA.le hS.1) (fun r27 x t H locs ht hvm hw hB _ _ hS => ?_)
              have hP := xB.at ht hB
              clear hB ht hvm
              obtain ⟨st28, sl29, so30⟩ := x
              obtain ⟨hGst28, hLGst28, hOst28, hw⟩ := hw
              dsimp only at hGst28 hLGst28 hOst28 hw
              have hL : LGq sl sl29 := hL.tr hLGst28
              replace hOst28 := hOst28.symm
              subst hOst28
              have hP : va_P (dC, dI) vwCl (xw A C nb st28 sl29 so) _ := hP
              have hG : XG [1, 2, 3, 4, 5, 6, 7, 8, 9, 11, 12, 13, 14, 15] st st28 := hG.tr hGst28 (by decide)
              obtain ⟨rfl, hf31⟩ := hw
              exact W.zret (v := 0) hx hb hr rfl (fun t ht hW => ⟨⟨0, (st28, sl29, so), rfl, ⟨hG, hL, rfl, Or.inr rfl⟩, xB.of ht hP⟩, hS.F ht⟩) hS.2.2 dX0_mayBegin_84
  · have c1 : j1 = 24 := (EV.eqw hEv (i := j1) (j := 24) (by omega) (by omega)).mp c1
    refine lv_aload_n hx hb dX0_mayBegin_12 rfl (lv_at hl 3 rfl) ?_
    refine lv_iconst (v := 2) hx hb dX0_mayBegin_13 (by decide) ?_
    refine lv_aload_n hx hb dX0_mayBegin_14 rfl (lv_at hl 2 rfl) ?_
    refine va_getN (host := "OffTheLead") (D := (dC, dI)) (ci := 9) (v := .long (sl 1 8)) (C := RX8) (T := TX8) (N := 15) hx hb hts ii_X0_mayBegin_X8 hown hK hP 1 (xw_is (r := 1) (by omega) (xc_fix (r := 1) (by omega))) rfl 8 (by decide) (va_Nw.use rfl (nf_X0_57 hEv)) (fun _ hh => hh) rfl dX0_mayBegin_15 ?_
    refine lv_topl (fun z32 ez32 => ?_)
    clear ez32
    refine va_calli (va_runV (As := [.int 2, .long z32]) (rest := []) ⟨hx, hb, hml, hown, hts⟩ (x_numberOf2 l dC dI ad E hEE A C nb _ hN st sl so 0 z32 (by omega) hG.1) (cwV 2 hts gX0_mayBegin_X4_numberOf rfl rfl rfl (by decide +kernel) ⟨Nat.le_of_ble_eq_true rfl, Nat.le_of_ble_eq_true rfl⟩) ⟨fun a U g mk q => ⟨q.1, xPre.blind hEE q.2⟩, va_recv hK hP (ci := 5) (q0 := (36 + 20 * 0)) rfl (xw_is (r := (36 + 20 * 0)) (by omega) (xc_pk (i := 0) (o := 0) (by omega) (by omega))), fun U hU hW => ⟨rfl, xPre.of hEE hP hK hE hS hU hW⟩⟩ rfl rfl hl.1 rfl (lv_room (Nat.le_of_ble_eq_true rfl)) dX0_mayBegin_18 ⟨Nat.le_of_ble_eq_true rfl, Nat.le_of_ble_eq_true rfl⟩) hS (fun q _ h => XA.le hS.1 q h) (XA.le hS.1) (fun r33 x t H locs ht hvm hw hB _ _ hS => ?_)
    have hP := xB.at ht hB
    clear hB ht hvm
    obtain ⟨rfl, hw⟩ := hw
    have hP : va_P (dC, dI) vwCl (xw A C nb st sl so) _ := hP
    rcases hw with rfl | ⟨n34, rfl, hf35⟩
    · refine lv_iconst (v := (-1)) hx hb dX0_mayBegin_21 (by decide) ?_
      refine lv_icmp_ne (tgt := 85) hx hb dX0_mayBegin_22 (by decide) (fun cc => absurd (by decide) cc) (fun _ => ?_)
      refine lv_aload_n hx hb dX0_mayBegin_25 rfl (lv_at hl 3 rfl) ?_
      refine lv_iconst (v := 1) hx hb dX0_mayBegin_26 (by decide) ?_
      refine lv_aload_n hx hb dX0_mayBegin_27 rfl (lv_at hl 2 rfl) ?_
      refine va_getN (host := "OffTheLead") (D := (dC, dI)) (ci := 9) (v := .long (sl 1 8)) (C := RX8) (T := TX8) (N := 15) hx hb hts ii_X0_mayBegin_X8 hown hK hP 1 (xw_is (r := 1) (by omega) (xc_fix (r := 1) (by omega))) rfl 8 (by decide) (va_Nw.use rfl (nf_X0_57 hEv)) (fun _ hh => hh) rfl dX0_mayBegin_28 ?_
      refine lv_topl (fun z36 ez36 => ?_)
      clear ez36
      refine va_calli (va_runV (As := [.int 1, .long z36]) (rest := []) ⟨hx, hb, hml, hown, hts⟩ (x_numberOf1 l dC dI ad E hEE A C nb _ hN st sl so 0 z36 (by omega) hG.1) (cwV 2 hts gX0_mayBegin_X4_numberOf rfl rfl rfl (by decide +kernel) ⟨Nat.le_of_ble_eq_true rfl, Nat.le_of_ble_eq_true rfl⟩) ⟨fun a U g mk q => ⟨q.1, xPre.blind hEE q.2⟩, va_recv hK hP (ci := 5) (q0 := (36 + 20 * 0)) rfl (xw_is (r := (36 + 20 * 0)) (by omega) (xc_pk (i := 0) (o := 0) (by omega) (by omega))), fun U hU hW => ⟨rfl, xPre.of hEE hP hK hE hS hU hW⟩⟩ rfl rfl hl.1 rfl (lv_room (Nat.le_of_ble_eq_true rfl)) dX0_mayBegin_31 ⟨Nat.le_of_ble_eq_true rfl, Nat.le_of_ble_eq_true rfl⟩) hS (fun q _ h => XA.le hS.1 q h) (XA.le hS.1) (fun r37 x t H locs ht hvm hw hB _ _ hS => ?_)
      have hP := xB.at ht hB
      clear hB ht hvm
      obtain ⟨rfl, hw⟩ := hw
      have hP : va_P (dC, dI) vwCl (xw A C nb st sl so) _ := hP
      rcases hw with rfl | ⟨n38, rfl, hf39⟩
      · refine lv_iconst (v := (-1)) hx hb dX0_mayBegin_34 (by decide) ?_
        refine lv_icmp_ne (tgt := 85) hx hb dX0_mayBegin_35 (by decide) (fun cc => absurd (by decide) cc) (fun _ => ?_)
        refine lv_aload_n hx hb dX0_mayBegin_38 rfl (lv_at hl 2 rfl) ?_
        refine lv_iconst (v := 3) hx hb dX0_mayBegin_39 (by decide) ?_
        refine va_calli (va_runV (As := [.int 3]) (rest := []) ⟨hx, hb, hml, hown, hts⟩ (x_X8_refuse l dC dI ad E hEE A C nb _ hN st sl so 3  hG.1) (cwV 1 hts gX0_mayBegin_X8_refuse rfl rfl rfl (by decide +kernel) ⟨Nat.le_of_ble_eq_true rfl, Nat.le_of_ble_eq_true rfl⟩) ⟨fun a U g mk q => ⟨q.1, xPre.blind hEE q.2⟩, va_recv hK hP (ci := 9) (q0 := 1) rfl (xw_is (r := 1) (by omega) (xc_fix (r := 1) (by omega))), fun U hU hW => ⟨rfl, xPre.of hEE hP hK hE hS hU hW⟩⟩ rfl rfl hl.1 rfl (lv_room (Nat.le_of_ble_eq_true rfl)) dX0_mayBegin_40 ⟨Nat.le_of_ble_eq_true rfl, Nat.le_of_ble_eq_true rfl⟩) hS (fun q _ h => XA.le hS.1 q h) (XA.le hS.1) (fun r40 x t H locs ht hvm hw hB _ _ hS => ?_)
        have hP := xB.at ht hB
        clear hB ht hvm
        obtain ⟨st41, sl42, so43⟩ := x
        obtain ⟨hGst41, hLGst41, hOst41, hw⟩ := hw
        dsimp only at hGst41 hLGst41 hOst41 hw
        have hL : LGq sl sl42 := hL.tr hLGst41
        replace hOst41 := hOst41.symm
        subst hOst41
        have hP : va_P (dC, dI) vwCl (xw A C nb st41 sl42 so) _ := hP
        have hG : XG [1, 2, 3, 4, 5, 6, 7, 8, 9, 11, 12, 13, 14, 15] st st41 := hG.tr hGst41 (by decide)
        obtain ⟨rfl, hf44⟩ := hw
        exact W.zret (v := 0) hx hb hr rfl (fun t ht hW => ⟨⟨0, (st41, sl42, so), rfl, ⟨hG, hL, rfl, Or.inr rfl⟩, xB.of ht hP⟩, hS.F ht⟩) hS.2.2 dX0_mayBegin_43
      · refine lv_iconst (v := (-1)) hx hb dX0_mayBegin_34 (by decide) ?_
        refine lv_icmp_ne (tgt := 85) hx hb dX0_mayBegin_35 (by decide) (fun _ => ?_) (fun cc => absurd cc (nI_nem (by omega)))
        refine lv_aload_n hx hb dX0_mayBegin_85 rfl (lv_at hl 1 rfl) ?_
        refine va_get (D := (dC, dI)) (ci := 1) (v := .int (st 4 5)) (C := RX0) (T := TX0) (N := 7) hx hb hts ii_X0_mayBegin_X0 hown hK hP 4 (xw_is (r := 4) (by omega) (xc_fix (r := 4) (by omega))) rfl 5 (by decide) (hts _ mm_X0_mayBegin_7) (fun _ hh => hh) rfl dX0_mayBegin_86 ?_
        refine zz_top (v := (nI gl)) (by show st 4 5 = _; rw [hgl]) ?_
        refine lv_bipush (v := 40) hx hb dX0_mayBegin_89 (by decide) ?_
        refine lv_icmp_lt (tgt := 102) hx hb dX0_mayBegin_91 (by decide) (fun c20 => ?_) (fun c20 => ?_)
        · have c20 : gl < 40 := (nI_ltI (a := gl) (b := 40) (by omega) (by omega)).mp c20
          refine lv_iconst (v := 1) hx hb dX0_mayBegin_102 (by decide) ?_
          refine lv_goto (tgt := 107) hx hb dX0_mayBegin_103 (by decide) ?_
          exact W.zret (v := 1) hx hb hr rfl (fun t ht hW => ⟨⟨1, (st, sl, so), rfl, ⟨hG, hL, rfl, Or.inl ⟨j1, rfl, by rw [ej1], by omega, by omega, by omega⟩⟩, xB.of ht hP⟩, hS.F ht⟩) hS.2.2 dX0_mayBegin_107
        · have c20 : ¬ gl < 40 := fun hh => c20 ((nI_ltI (a := gl) (b := 40) (by omega) (by omega)).mpr hh)
          refine lv_aload_n hx hb dX0_mayBegin_94 rfl (lv_at hl 2 rfl) ?_
          refine lv_iconst (v := 4) hx hb dX0_mayBegin_95 (by decide) ?_
          refine va_calli (va_runV (As := [.int 4]) (rest := []) ⟨hx, hb, hml, hown, hts⟩ (x_X8_refuse l dC dI ad E hEE A C nb _ hN st sl so 4  hG.1) (cwV 1 hts gX0_mayBegin_X8_refuse rfl rfl rfl (by decide +kernel) ⟨Nat.le_of_ble_eq_true rfl, Nat.le_of_ble_eq_true rfl⟩) ⟨fun a U g mk q => ⟨q.1, xPre.blind hEE q.2⟩, va_recv hK hP (ci := 9) (q0 := 1) rfl (xw_is (r := 1) (by omega) (xc_fix (r := 1) (by omega))), fun U hU hW => ⟨rfl, xPre.of hEE hP hK hE hS hU hW⟩⟩ rfl rfl hl.1 rfl (lv_room (Nat.le_of_ble_eq_true rfl)) dX0_mayBegin_96 ⟨Nat.le_of_ble_eq_true rfl, Nat.le_of_ble_eq_true rfl⟩) hS (fun q _ h => XA.le hS.1 q h) (XA.le hS.1) (fun r45 x t H locs ht hvm hw hB _ _ hS => ?_)
          have hP := xB.at ht hB
          clear hB ht hvm
          obtain ⟨st46, sl47, so48⟩ := x
          obtain ⟨hGst46, hLGst46, hOst46, hw⟩ := hw
          dsimp only at hGst46 hLGst46 hOst46 hw
          have hL : LGq sl sl47 := hL.tr hLGst46
          replace hOst46 := hOst46.symm
          subst hOst46
          have hP : va_P (dC, dI) vwCl (xw A C nb st46 sl47 so) _ := hP
          have hG : XG [1, 2, 3, 4, 5, 6, 7, 8, 9, 11, 12, 13, 14, 15] st st46 := hG.tr hGst46 (by decide)
          obtain ⟨rfl, hf49⟩ := hw
          refine lv_if_eq (tgt := 106) hx hb dX0_mayBegin_99 (by decide) (fun _ => ?_) (fun cc => absurd (by decide) cc)
          refine lv_iconst (v := 0) hx hb dX0_mayBegin_106 (by decide) ?_
          exact W.zret (v := 0) hx hb hr rfl (fun t ht hW => ⟨⟨0, (st46, sl47, so), rfl, ⟨hG, hL, rfl, Or.inr rfl⟩, xB.of ht hP⟩, hS.F ht⟩) hS.2.2 dX0_mayBegin_107
    · refine lv_iconst (v := (-1)) hx hb dX0_mayBegin_21 (by decide) ?_
      refine lv_icmp_ne (tgt := 85) hx hb dX0_mayBegin_22 (by decide) (fun _ => ?_) (fun cc => absurd cc (nI_nem (by omega)))
      refine lv_aload_n hx hb dX0_mayBegin_85 rfl (lv_at hl 1 rfl) ?_
      refine va_get (D := (dC, dI)) (ci := 1) (v := .int (st 4 5)) (C := RX0) (T := TX0) (N := 7) hx hb hts ii_X0_mayBegin_X0 hown hK hP 4 (xw_is (r := 4) (by omega) (xc_fix (r := 4) (by omega))) rfl 5 (by decide) (hts _ mm_X0_mayBegin_7) (fun _ hh => hh) rfl dX0_mayBegin_86 ?_
      refine zz_top (v := (nI gl)) (by show st 4 5 = _; rw [hgl]) ?_
      refine lv_bipush (v := 40) hx hb dX0_mayBegin_89 (by decide) ?_
      refine lv_icmp_lt (tgt := 102) hx hb dX0_mayBegin_91 (by decide) (fun c23 => ?_) (fun c23 => ?_)
      · have c23 : gl < 40 := (nI_ltI (a := gl) (b := 40) (by omega) (by omega)).mp c23
        refine lv_iconst (v := 1) hx hb dX0_mayBegin_102 (by decide) ?_
        refine lv_goto (tgt := 107) hx hb dX0_mayBegin_103 (by decide) ?_
        exact W.zret (v := 1) hx hb hr rfl (fun t ht hW => ⟨⟨1, (st, sl, so), rfl, ⟨hG, hL, rfl, Or.inl ⟨j1, rfl, by rw [ej1], by omega, by omega, by omega⟩⟩, xB.of ht hP⟩, hS.F ht⟩) hS.2.2 dX0_mayBegin_107
      · have c23 : ¬ gl < 40 := fun hh => c23 ((nI_ltI (a := gl) (b := 40) (by omega) (by omega)).mpr hh)
        refine lv_aload_n hx hb dX0_mayBegin_94 rfl (lv_at hl 2 rfl) ?_
        refine lv_iconst (v := 4) hx hb dX0_mayBegin_95 (by decide) ?_
        refine va_calli (va_runV (As := [.int 4]) (rest := []) ⟨hx, hb, hml, hown, hts⟩ (x_X8_refuse l dC dI ad E hEE A C nb _ hN st sl so 4  hG.1) (cwV 1 hts gX0_mayBegin_X8_refuse rfl rfl rfl (by decide +kernel) ⟨Nat.le_of_ble_eq_true rfl, Nat.le_of_ble_eq_true rfl⟩) ⟨fun a U g mk q => ⟨q.1, xPre.blind hEE q.2⟩, va_recv hK hP (ci := 9) (q0 := 1) rfl (xw_is (r := 1) (by omega) (xc_fix (r := 1) (by omega))), fun U hU hW => ⟨rfl, xPre.of hEE hP hK hE hS hU hW⟩⟩ rfl rfl hl.1 rfl (lv_room (Nat.le_of_ble_eq_true rfl)) dX0_mayBegin_96 ⟨Nat.le_of_ble_eq_true rfl, Nat.le_of_ble_eq_true rfl⟩) hS (fun q _ h => XA.le hS.1 q h) (XA.le hS.1) (fun r50 x t H locs ht hvm hw hB _ _ hS => ?_)
        have hP := xB.at ht hB
        clear hB ht hvm
        obtain ⟨st51, sl52, so53⟩ := x
        obtain ⟨hGst51, hLGst51, hOst51, hw⟩ := hw
        dsimp only at hGst51 hLGst51 hOst51 hw
        have hL : LGq sl sl52 := hL.tr hLGst51
        replace hOst51 := hOst51.symm
        subst hOst51
        have hP : va_P (dC, dI) vwCl (xw A C nb st51 sl52 so) _ := hP
        have hG : XG [1, 2, 3, 4, 5, 6, 7, 8, 9, 11, 12, 13, 14, 15] st st51 := hG.tr hGst51 (by decide)
        obtain ⟨rfl, hf54⟩ := hw
        refine lv_if_eq (tgt := 106) hx hb dX0_mayBegin_99 (by decide) (fun _ => ?_) (fun cc => absurd (by decide) cc)
        refine lv_iconst (v := 0) hx hb dX0_mayBegin_106 (by decide) ?_
        exact W.zret (v := 0) hx hb hr rfl (fun t ht hW => ⟨⟨0, (st51, sl52, so), rfl, ⟨hG, hL, rfl, Or.inr rfl⟩, xB.of ht hP⟩, hS.F ht⟩) hS.2.2 dX0_mayBegin_107
set_option maxHeartbeats 4000000 in
set_option maxRecDepth 100000 in
theorem x_X0_readAct (l : Launch) (dC : Nat → ClassId) (dI : Nat → Nat → Nat) (ad : Nat → Nat) (E : EP) (hEE : EC ad E) (A : Nat → Nat) (C : Nat → ClassId) (nb sz : Nat) (hN : XN A) (st : Nat → Nat → Int32) (sl : Nat → Nat → Int64) (so : Nat → XR) (gl : Nat) (gw : Nat) (hI : XI st) (hOI : OI ad so) (hgl : st 4 5 = nI gl) (hgl2 : gl < 40) (hgw : so 1 7 = some (ad gw)) (hgw2 : gw < 26) (hgw3 : (gw = 24 ∨ gw = 5 ∨ gw = 6 ∨ gw = 7 ∨ gw = 8 ∨ gw = 12)) : Met l yX0_readAct wsX0_readAct ({ frames := 7, cells := 0, slots := 0, locals := 152 }) (va_Pc [.ref (A 4), .ref (A 1), .ref (A (36 + 20 * 0))] (xPre E dC dI A C nb sz st sl so)) (va_Qr (fun (_ : XT) => True) (fun (x : XT) (r : Nat) (t : State) => (XG [1, 2, 4, 5, 6, 7, 8, 9, 12, 13, 14, 15] st x.1 ∧ LGq sl x.2.1 ∧ OG ad [2, 3, 4] so x.2.2 ∧ (∃ j : Nat, r = ad j ∧ j < 26 ∧ ((j = 9 ∨ j = 10 → ∃ m, m < 6 ∧ x.1 6 gl = nI m) ∧ (j = 11 → ∃ m, m < 8 ∧ x.1 6 gl = nI m)) ∧ (∀ jj, jj < gl → x.1 6 jj = st 6 jj))) ∧ xB dC dI A C nb x t) (XA A sz)) 0 0 (XA A sz) := by
  refine Met.ofW (cc := cX0_readAct) (maxL := 6) (ret := (some (.object "OffTheLead$Word"))) (by decide) rfl ?_
  intro p e s m args below meth c s₁ B hml hv
  obtain ⟨rfl, hsz, hP, hK, hE⟩ := hv
  have hx := B.exec
  have hb := B.bytes
  have hr := B.returns
  have hts := atoms_spec (ws := wsX0_readAct) B.pre
  have hown : s.vm.findClass RX0 = some m.cls := findClass_of_methodNamed B.named
  subst hsz
  have hEv := hEE.1 _ _ _ hE
  have hS : va_S (XA A s.heap.size) s.heap s.heap [] := va_S.rf
  have hG : XG [1, 2, 4, 5, 6, 7, 8, 9, 12, 13, 14, 15] st st := XG.rf hI
  have hO : OG ad [2, 3, 4] so so := OG.rf hOI
  have hl := lv_entry ([.ref (A 4), .ref (A 1), .ref (A (36 + 20 * 0))]) (n := 6) (Nat.le_of_ble_eq_true rfl)
  rw [lg_entry_eq]
  generalize (lg_sl ([.ref (A 4), .ref (A 1), .ref (A (36 + 20 * 0))]) ++ List.replicate (6 - (lg_sl ([.ref (A 4), .ref (A 1), .ref (A (36 + 20 * 0))])).length) Slot.unset).toArray = ls at hl ⊢
  have hl : lv_has ls 6 [(0, .ref (A 4)), (1, .ref (A 1)), (2, .ref (A (36 + 20 * 0)))] := hl
  have hL : LGq sl sl := LGq.rf
  refine lv_aload_n hx hb dX0_readAct_0 rfl (lv_at hl 1 rfl) ?_
  refine va_getN (host := "OffTheLead") (D := (dC, dI)) (ci := 9) (v := va_rf (so 1 7)) (C := RX8) (T := TX8) (N := 15) hx hb hts ii_X0_readAct_X8 hown hK hP 1 (xw_is (r := 1) (by omega) (xc_fix (r := 1) (by omega))) rfl 7 (by decide) (va_Nw.use rfl (nf_X0_50 hEv)) (fun _ hh => hh) rfl dX0_readAct_1 ?_
  refine zz_topq (r := some (ad gw)) (by rw [hgw]) ?_
  refine lv_astore_n (lv' := [(3, .ref (ad gw)), (0, .ref (A 4)), (1, .ref (A 1)), (2, .ref (A (36 + 20 * 0)))]) hx hb dX0_readAct_4 rfl hl (by decide) rfl (fun ls hl => ?_)
  refine lv_aload_n hx hb dX0_readAct_5 rfl (lv_at hl 0 rfl) ?_
  refine va_gets (v := .ref (ad 24)) hx hb (EV.word hEv (i := 24) (by decide)) hS hown (hts _ mm_X0_readAct_1) (fun _ hh => hh) dX0_readAct_6 ?_
  refine lv_acmp_eq (rx := (some (ad gw))) (ry := (some (ad 24))) (tgt := 18) hx hb dX0_readAct_9 (by decide) (fun c1 => ?_) (fun c1 => ?_)
  · have c1 : gw = 24 := (EV.eqw hEv (i := gw) (j := 24) (by omega) (by omega)).mp c1
    refine lv_aload_n hx hb dX0_readAct_18 rfl (lv_at hl 3 rfl) ?_
    refine lv_iconst (v := 2) hx hb dX0_readAct_19 (by decide) ?_
    refine lv_aload_n hx hb dX0_readAct_20 rfl (lv_at hl 2 rfl) ?_
    refine va_getN (host := "OffTheLead") (D := (dC, dI)) (ci := 9) (v := .long (sl 1 8)) (C := RX8) (T := TX8) (N := 15) hx hb hts ii_X0_readAct_X8 hown hK hP 1 (xw_is (r := 1) (by omega) (xc_fix (r := 1) (by omega))) rfl 8 (by decide) (va_Nw.use rfl (nf_X0_57 hEv)) (fun _ hh => hh) rfl dX0_readAct_21 ?_
    refine lv_topl (fun z1 ez1 => ?_)
    clear ez1
    refine va_calli (va_runV (As := [.int 2, .long z1]) (rest := []) ⟨hx, hb, hml, hown, hts⟩ (x_numberOf2 l dC dI ad E hEE A C nb _ hN st sl so 0 z1 (by omega) hG.1) (cwV 2 hts gX0_readAct_X4_numberOf rfl rfl rfl (by decide +kernel) ⟨Nat.le_of_ble_eq_true rfl, Nat.le_of_ble_eq_true rfl⟩) ⟨fun a U g mk q => ⟨q.1, xPre.blind hEE q.2⟩, va_recv hK hP (ci := 5) (q0 := (36 + 20 * 0)) rfl (xw_is (r := (36 + 20 * 0)) (by omega) (xc_pk (i := 0) (o := 0) (by omega) (by omega))), fun U hU hW => ⟨rfl, xPre.of hEE hP hK hE hS hU hW⟩⟩ rfl rfl hl.1 rfl (lv_room (Nat.le_of_ble_eq_true rfl)) dX0_readAct_24 ⟨Nat.le_of_ble_eq_true rfl, Nat.le_of_ble_eq_true rfl⟩) hS (fun q _ h => XA.le hS.1 q h) (XA.le hS.1) (fun r2 x t H locs ht hvm hw hB _ _ hS => ?_)
    have hP := xB.at ht hB
    clear hB ht hvm
    obtain ⟨rfl, hw⟩ := hw
    have hP : va_P (dC, dI) vwCl (xw A C nb st sl so) _ := hP
    rcases hw with rfl | ⟨n3, rfl, hf4⟩
    · refine lv_iconst (v := (-1)) hx hb dX0_readAct_27 (by decide) ?_
      refine lv_icmp_eq (tgt := 35) hx hb dX0_readAct_28 (by decide) (fun _ => ?_) (fun cc => absurd (by decide) cc)
      refine lv_iconst (v := 1) hx hb dX0_readAct_35 (by decide) ?_
      refine lv_istore (lv' := [(4, .int 1), (3, .ref (ad gw)), (0, .ref (A 4)), (1, .ref (A 1)), (2, .ref (A (36 + 20 * 0)))]) hx hb dX0_readAct_36 hl (by decide) rfl (fun ls hl => ?_)
      refine lv_aload_n hx hb dX0_readAct_38 rfl (lv_at hl 3 rfl) ?_
      refine lv_aload_n hx hb dX0_readAct_39 rfl (lv_at hl 4 rfl) ?_
      refine lv_iload hx hb dX0_readAct_40 (lv_at hl 0 rfl) ?_
      refine va_calli (va_runV (As := [.ref (A (36 + 20 * 0)), .int 1]) (rest := []) ⟨hx, hb, hml, hown, hts⟩ (x_takeNamed1 l dC dI ad E hEE A C nb _ hN st sl so 0 (by omega) hG.1 hO.1) (cwV 2 hts gX0_readAct_X8_takeNamed rfl rfl rfl (by decide +kernel) ⟨Nat.le_of_ble_eq_true rfl, Nat.le_of_ble_eq_true rfl⟩) ⟨fun a U g mk q => ⟨q.1, xPre.blind hEE q.2⟩, va_recv hK hP (ci := 9) (q0 := 1) rfl (xw_is (r := 1) (by omega) (xc_fix (r := 1) (by omega))), fun U hU hW => ⟨rfl, xPre.of hEE hP hK hE hS hU hW⟩⟩ rfl rfl hl.1 rfl (lv_room (Nat.le_of_ble_eq_true rfl)) dX0_readAct_42 ⟨Nat.le_of_ble_eq_true rfl, Nat.le_of_ble_eq_true rfl⟩) hS (fun q _ h => XA.le hS.1 q h) (XA.le hS.1) (fun r5 x t H locs ht hvm hw hB _ _ hS => ?_)
      have hP := xB.at ht hB
      clear hB ht hvm
      obtain ⟨st6, sl7, so8⟩ := x
      obtain ⟨hGst6, hLGst6, hOst6, hw⟩ := hw
      dsimp only at hGst6 hLGst6 hOst6 hw
      have hL : LGq sl sl7 := hL.tr hLGst6
      have hO : OG ad [2, 3, 4] so so8 := hO.tr hOst6 (by decide)
      have hP : va_P (dC, dI) vwCl (xw A C nb st6 sl7 so8) _ := hP
      have hG : XG [1, 2, 4, 5, 6, 7, 8, 9, 12, 13, 14, 15] st st6 := hG.tr hGst6 (by decide)
      rcases hw with ⟨n9, rfl, hf10, hf11⟩ | ⟨rfl, hf12⟩
      · refine lv_if_ne (tgt := 52) hx hb dX0_readAct_45 (by decide) (fun _ => ?_) (fun cc => absurd cc (by decide))
        refine lv_aload_n hx hb dX0_readAct_52 rfl (lv_at hl 2 rfl) ?_
        refine va_get (D := (dC, dI)) (ci := 1) (v := .ref (A 6)) (C := RX0) (T := TX0) (N := 7) hx hb hts ii_X0_readAct_X0 hown hK hP 4 (xw_is (r := 4) (by omega) (xc_fix (r := 4) (by omega))) rfl 1 (by decide) (hts _ mm_X0_readAct_3) (fun _ hh => hh) rfl dX0_readAct_53 ?_
        refine lv_aload_n hx hb dX0_readAct_56 rfl (lv_at hl 2 rfl) ?_
        refine va_get (D := (dC, dI)) (ci := 1) (v := .int (st6 4 5)) (C := RX0) (T := TX0) (N := 7) hx hb hts ii_X0_readAct_X0 hown hK hP 4 (xw_is (r := 4) (by omega) (xc_fix (r := 4) (by omega))) rfl 5 (by decide) (hts _ mm_X0_readAct_4) (fun _ hh => hh) rfl dX0_readAct_57 ?_
        refine zz_top (v := (nI gl)) (by show st6 4 5 = _; rw [hGst6.2 4 5 (by rw [(by decide : xcl 4 5 = 6)]; decide), hgl]) ?_
        refine lv_aload_n hx hb dX0_readAct_60 rfl (lv_at hl 3 rfl) ?_
        refine va_getN (host := "OffTheLead") (D := (dC, dI)) (ci := 9) (v := .int (st6 1 9)) (C := RX8) (T := TX8) (N := 15) hx hb hts ii_X0_readAct_X8 hown hK hP 1 (xw_is (r := 1) (by omega) (xc_fix (r := 1) (by omega))) rfl 9 (by decide) (va_Nw.use rfl (nf_X0_102 hEv)) (fun _ hh => hh) rfl dX0_readAct_61 ?_
        refine zz_top (v := (nI n9)) (by show st6 1 9 = _; rw [hf10]) ?_
        refine va_iast hx hb hK hP (xD hN _ _ _ _ _ _) hS 6 6 (xw_is (r := 6) (by omega) (xc_fix (r := 6) (by omega))) (xt_is (r := 6) (by omega) rfl) (i := (nI gl)) (vp_in_nI (by omega) (by decide)) dX0_readAct_64 (fun H locs hP _ hS => ?_)
        rw [nI_clamp (by omega)] at hP
        have hP : va_P (dC, dI) vwCl (xw A C nb (up2 st6 6 gl (nI n9)) sl7 so8) H := by rw [← xset (r := 6) (k := gl) (v := (nI n9)) (xc_fix (r := 6) (by omega))]; exact hP
        obtain ⟨st13, est13⟩ : ∃ y, y = up2 st6 6 gl (nI n9) := ⟨_, rfl⟩
        have hG : XG [1, 2, 4, 5, 6, 7, 8, 9, 12, 13, 14, 15] st st13 := by rw [est13]; exact hG.up (xz (r := 6) (k := gl) (by unfold xrg; rfl : xrg 6 gl = 0)) (xpn (c := 3) (by unfold xcl; rfl : xcl 6 gl = 3) (by decide))
        rw [← est13] at hP
        refine lv_aload_n hx hb dX0_readAct_65 rfl (lv_at hl 3 rfl) ?_
        refine va_getN (host := "OffTheLead") (D := (dC, dI)) (ci := 9) (v := va_rf (so8 1 7)) (C := RX8) (T := TX8) (N := 15) hx hb hts ii_X0_readAct_X8 hown hK hP 1 (xw_is (r := 1) (by omega) (xc_fix (r := 1) (by omega))) rfl 7 (by decide) (va_Nw.use rfl (nf_X0_50 hEv)) (fun _ hh => hh) rfl dX0_readAct_66 ?_
        obtain ⟨j14, hj14, ej14⟩ := hO.1.2
        refine zz_topq (r := some (ad j14)) (by rw [ej14]) ?_
        refine lv_astore_n (lv' := [(3, .ref (ad j14)), (4, .int 1), (0, .ref (A 4)), (1, .ref (A 1)), (2, .ref (A (36 + 20 * 0)))]) hx hb dX0_readAct_69 rfl hl (by decide) rfl (fun ls hl => ?_)
        refine lv_iload hx hb dX0_readAct_70 (lv_at hl 1 rfl) ?_
        refine lv_iconst (v := 2) hx hb dX0_readAct_72 (by decide) ?_
        refine lv_icmp_ne (tgt := 98) hx hb dX0_readAct_73 (by decide) (fun _ => ?_) (fun cc => absurd cc (by decide))
        refine lv_aload_n hx hb dX0_readAct_98 rfl (lv_at hl 0 rfl) ?_
        refine va_gets (v := .ref (ad 11)) hx hb (EV.word hEv (i := 11) (by decide)) hS hown (hts _ mm_X0_readAct_7) (fun _ hh => hh) dX0_readAct_99 ?_
        refine lv_acmp_ne (rx := (some (ad j14))) (ry := (some (ad 11))) (tgt := 109) hx hb dX0_readAct_102 (by decide) (fun c5 => ?_) (fun c5 => ?_)
        · have c5 : ¬ j14 = 11 := fun hh => c5 ((EV.eqw hEv (i := j14) (j := 11) (by omega) (by omega)).mpr hh)
          refine lv_iconst (v := 0) hx hb dX0_readAct_109 (by decide) ?_
          refine lv_istore (lv' := [(5, .int 0), (3, .ref (ad j14)), (4, .int 1), (0, .ref (A 4)), (1, .ref (A 1)), (2, .ref (A (36 + 20 * 0)))]) hx hb dX0_readAct_110 hl (by decide) rfl (fun ls hl => ?_)
          refine lv_iload hx hb dX0_readAct_112 (lv_at hl 0 rfl) ?_
          refine lv_if_ne (tgt := 127) hx hb dX0_readAct_114 (by decide) (fun cc => absurd (by decide) cc) (fun _ => ?_)
          refine lv_aload_n hx hb dX0_readAct_117 rfl (lv_at hl 4 rfl) ?_
          refine lv_iconst (v := 1) hx hb dX0_readAct_118 (by decide) ?_
          refine va_calli (va_runV (As := [.int 1]) (rest := []) ⟨hx, hb, hml, hown, hts⟩ (x_X8_refuse l dC dI ad E hEE A C nb _ hN st13 sl7 so8 1  hG.1) (cwV 1 hts gX0_readAct_X8_refuse rfl rfl rfl (by decide +kernel) ⟨Nat.le_of_ble_eq_true rfl, Nat.le_of_ble_eq_true rfl⟩) ⟨fun a U g mk q => ⟨q.1, xPre.blind hEE q.2⟩, va_recv hK hP (ci := 9) (q0 := 1) rfl (xw_is (r := 1) (by omega) (xc_fix (r := 1) (by omega))), fun U hU hW => ⟨rfl, xPre.of hEE hP hK hE hS hU hW⟩⟩ rfl rfl hl.1 rfl (lv_room (Nat.le_of_ble_eq_true rfl)) dX0_readAct_119 ⟨Nat.le_of_ble_eq_true rfl, Nat.le_of_ble_eq_true rfl⟩) hS (fun q _ h => XA.le hS.1 q h) (XA.le hS.1) (fun r15 x t H locs ht hvm hw hB _ _ hS => ?_)
          have hP := xB.at ht hB
          clear hB ht hvm
          obtain ⟨st16, sl17, so18⟩ := x
          obtain ⟨hGst16, hLGst16, hOst16, hw⟩ := hw
          dsimp only at hGst16 hLGst16 hOst16 hw
          have hL : LGq sl sl17 := hL.tr hLGst16
          replace hOst16 := hOst16.symm
          subst hOst16
          have hP : va_P (dC, dI) vwCl (xw A C nb st16 sl17 so8) _ := hP
          have hG : XG [1, 2, 4, 5, 6, 7, 8, 9, 12, 13, 14, 15] st st16 := hG.tr hGst16 (by decide)
          obtain ⟨rfl, hf19⟩ := hw
          refine lv_pop hx hb dX0_readAct_122 rfl ?_
          refine va_gets (v := .ref (ad 25)) hx hb (EV.word hEv (i := 25) (by decide)) hS hown (hts _ mm_X0_readAct_2) (fun _ hh => hh) dX0_readAct_123 ?_
          exact W.aret (v := .ref (ad 25)) hx hb hr (Or.inl ⟨_, rfl⟩) (Or.inr ⟨_, rfl⟩) (fun t ht hW => ⟨⟨(st16, sl17, so8), (ad 25), rfl, trivial, ⟨hG, hL, hO, ⟨25, rfl, by omega, ⟨fun hh => absurd hh (by omega), fun hh => absurd hh (by omega)⟩, fun jj hk => by show st16 6 jj = st 6 jj; rw [hGst16.2 6 jj (by rw [(by unfold xcl; rfl : xcl 6 jj = 3)]; decide), est13, up2_ne (r := 6) (k := gl) (a := 6) (j := jj) _ _ (by omega), hGst6.2 6 jj (by rw [(by unfold xcl; rfl : xcl 6 jj = 3)]; decide)]⟩⟩, xB.of ht hP⟩, hS.F ht⟩) hS.2.2 dX0_readAct_126
        · have c5 : j14 = 11 := (EV.eqw hEv (i := j14) (j := 11) (by omega) (by omega)).mp c5
          refine lv_iconst (v := 1) hx hb dX0_readAct_105 (by decide) ?_
          refine lv_goto (tgt := 110) hx hb dX0_readAct_106 (by decide) ?_
          refine lv_istore (lv' := [(5, .int 1), (3, .ref (ad j14)), (4, .int 1), (0, .ref (A 4)), (1, .ref (A 1)), (2, .ref (A (36 + 20 * 0)))]) hx hb dX0_readAct_110 hl (by decide) rfl (fun ls hl => ?_)
          refine lv_iload hx hb dX0_readAct_112 (lv_at hl 0 rfl) ?_
          refine lv_if_ne (tgt := 127) hx hb dX0_readAct_114 (by decide) (fun _ => ?_) (fun cc => absurd cc (by decide))
          refine lv_aload_n hx hb dX0_readAct_127 rfl (lv_at hl 4 rfl) ?_
          refine va_callv (va_runV (As := []) (rest := []) ⟨hx, hb, hml, hown, hts⟩ (x_X8_step l dC dI ad E hEE A C nb _ hN st13 sl7 so8  hG.1 hO.1) (cwV 0 hts gX0_readAct_X8_step rfl rfl rfl (by decide +kernel) ⟨Nat.le_of_ble_eq_true rfl, Nat.le_of_ble_eq_true rfl⟩) ⟨fun a U g mk q => ⟨q.1, xPre.blind hEE q.2⟩, va_recv hK hP (ci := 9) (q0 := 1) rfl (xw_is (r := 1) (by omega) (xc_fix (r := 1) (by omega))), fun U hU hW => ⟨rfl, xPre.of hEE hP hK hE hS hU hW⟩⟩ rfl rfl hl.1 rfl (lv_room (Nat.le_of_ble_eq_true rfl)) dX0_readAct_128 ⟨Nat.le_of_ble_eq_true rfl, Nat.le_of_ble_eq_true rfl⟩) hS (fun q _ h => XA.le hS.1 q h) (XA.le hS.1) (fun x t H locs ht hvm hw hB _ _ hS => ?_)
          have hP := xB.at ht hB
          clear hB ht hvm
          obtain ⟨st21, sl22, so23⟩ := x
          obtain ⟨hGst21, hLGst21, hOst21, hw⟩ := hw
          dsimp only at hGst21 hLGst21 hOst21 hw
          have hL : LGq sl sl22 := hL.tr hLGst21
          have hO : OG ad [2, 3, 4] so so23 := hO.tr hOst21 (by decide)
          have hP : va_P (dC, dI) vwCl (xw A C nb st21 sl22 so23) _ := hP
          have hG : XG [1, 2, 4, 5, 6, 7, 8, 9, 12, 13, 14, 15] st st21 := hG.tr hGst21 (by decide)
          clear hw
          refine lv_aload_n hx hb dX0_readAct_131 rfl (lv_at hl 1 rfl) ?_
          exact W.aret (v := .ref (ad j14)) hx hb hr (Or.inl ⟨_, rfl⟩) (Or.inr ⟨_, rfl⟩) (fun t ht hW => ⟨⟨(st21, sl22, so23), (ad j14), rfl, trivial, ⟨hG, hL, hO, ⟨j14, rfl, by omega, ⟨fun hh => absurd hh (by omega), fun _ => ⟨n9, by omega, by show st21 6 gl = _; rw [hGst21.2 6 gl (by rw [(by unfold xcl; rfl : xcl 6 gl = 3)]; decide), est13, up2_same]⟩⟩, fun jj hk => by show st21 6 jj = st 6 jj; rw [hGst21.2 6 jj (by rw [(by unfold xcl; rfl : xcl 6 jj = 3)]; decide), est13, up2_ne (r := 6) (k := gl) (a := 6) (j := jj) _ _ (by omega), hGst6.2 6 jj (by rw [(by unfold xcl; rfl : xcl 6 jj = 3)]; decide)]⟩⟩, xB.of ht hP⟩, hS.F ht⟩) hS.2.2 dX0_readAct_132
      · refine lv_if_ne (tgt := 52) hx hb dX0_readAct_45 (by decide) (fun cc => absurd (by decide) cc) (fun _ => ?_)
        refine va_gets (v := .ref (ad 25)) hx hb (EV.word hEv (i := 25) (by decide)) hS hown (hts _ mm_X0_readAct_2) (fun _ hh => hh) dX0_readAct_48 ?_
        exact W.aret (v := .ref (ad 25)) hx hb hr (Or.inl ⟨_, rfl⟩) (Or.inr ⟨_, rfl⟩) (fun t ht hW => ⟨⟨(st6, sl7, so8), (ad 25), rfl, trivial, ⟨hG, hL, hO, ⟨25, rfl, by omega, ⟨fun hh => absurd hh (by omega), fun hh => absurd hh (by omega)⟩, fun jj hk => by show st6 6 jj = st 6 jj; rw [hGst6.2 6 jj (by rw [(by unfold xcl; rfl : xcl 6 jj = 3)]; decide)]⟩⟩, xB.of ht hP⟩, hS.F ht⟩) hS.2.2 dX0_readAct_51
    · refine lv_iconst (v := (-1)) hx hb dX0_readAct_27 (by decide) ?_
      refine lv_icmp_eq (tgt := 35) hx hb dX0_readAct_28 (by decide) (fun cc => absurd cc (nI_nem (by omega))) (fun _ => ?_)
      refine lv_iconst (v := 2) hx hb dX0_readAct_31 (by decide) ?_
      refine lv_goto (tgt := 36) hx hb dX0_readAct_32 (by decide) ?_
      refine lv_istore (lv' := [(4, .int 2), (3, .ref (ad gw)), (0, .ref (A 4)), (1, .ref (A 1)), (2, .ref (A (36 + 20 * 0)))]) hx hb dX0_readAct_36 hl (by decide) rfl (fun ls hl => ?_)
      refine lv_aload_n hx hb dX0_readAct_38 rfl (lv_at hl 3 rfl) ?_
      refine lv_aload_n hx hb dX0_readAct_39 rfl (lv_at hl 4 rfl) ?_
      refine lv_iload hx hb dX0_readAct_40 (lv_at hl 0 rfl) ?_
      refine va_calli (va_runV (As := [.ref (A (36 + 20 * 0)), .int 2]) (rest := []) ⟨hx, hb, hml, hown, hts⟩ (x_takeNamed2 l dC dI ad E hEE A C nb _ hN st sl so 0 (by omega) hG.1 hO.1) (cwV 2 hts gX0_readAct_X8_takeNamed rfl rfl rfl (by decide +kernel) ⟨Nat.le_of_ble_eq_true rfl, Nat.le_of_ble_eq_true rfl⟩) ⟨fun a U g mk q => ⟨q.1, xPre.blind hEE q.2⟩, va_recv hK hP (ci := 9) (q0 := 1) rfl (xw_is (r := 1) (by omega) (xc_fix (r := 1) (by omega))), fun U hU hW => ⟨rfl, xPre.of hEE hP hK hE hS hU hW⟩⟩ rfl rfl hl.1 rfl (lv_room (Nat.le_of_ble_eq_true rfl)) dX0_readAct_42 ⟨Nat.le_of_ble_eq_true rfl, Nat.le_of_ble_eq_true rfl⟩) hS (fun q _ h => XA.le hS.1 q h) (XA.le hS.1) (fun r24 x t H locs ht hvm hw hB _ _ hS => ?_)
      have hP := xB.at ht hB
      clear hB ht hvm
      obtain ⟨st25, sl26, so27⟩ := x
      obtain ⟨hGst25, hLGst25, hOst25, hw⟩ := hw
      dsimp only at hGst25 hLGst25 hOst25 hw
      have hL : LGq sl sl26 := hL.tr hLGst25
      have hO : OG ad [2, 3, 4] so so27 := hO.tr hOst25 (by decide)
      have hP : va_P (dC, dI) vwCl (xw A C nb st25 sl26 so27) _ := hP
      have hG : XG [1, 2, 4, 5, 6, 7, 8, 9, 12, 13, 14, 15] st st25 := hG.tr hGst25 (by decide)
      rcases hw with ⟨n28, rfl, hf29, hf30⟩ | ⟨rfl, hf31⟩
      · refine lv_if_ne (tgt := 52) hx hb dX0_readAct_45 (by decide) (fun _ => ?_) (fun cc => absurd cc (by decide))
        refine lv_aload_n hx hb dX0_readAct_52 rfl (lv_at hl 2 rfl) ?_
        refine va_get (D := (dC, dI)) (ci := 1) (v := .ref (A 6)) (C := RX0) (T := TX0) (N := 7) hx hb hts ii_X0_readAct_X0 hown hK hP 4 (xw_is (r := 4) (by omega) (xc_fix (r := 4) (by omega))) rfl 1 (by decide) (hts _ mm_X0_readAct_3) (fun _ hh => hh) rfl dX0_readAct_53 ?_
        refine lv_aload_n hx hb dX0_readAct_56 rfl (lv_at hl 2 rfl) ?_
        refine va_get (D := (dC, dI)) (ci := 1) (v := .int (st25 4 5)) (C := RX0) (T := TX0) (N := 7) hx hb hts ii_X0_readAct_X0 hown hK hP 4 (xw_is (r := 4) (by omega) (xc_fix (r := 4) (by omega))) rfl 5 (by decide) (hts _ mm_X0_readAct_4) (fun _ hh => hh) rfl dX0_readAct_57 ?_
        refine zz_top (v := (nI gl)) (by show st25 4 5 = _; rw [hGst25.2 4 5 (by rw [(by decide : xcl 4 5 = 6)]; decide), hgl]) ?_
        refine lv_aload_n hx hb dX0_readAct_60 rfl (lv_at hl 3 rfl) ?_
        refine va_getN (host := "OffTheLead") (D := (dC, dI)) (ci := 9) (v := .int (st25 1 9)) (C := RX8) (T := TX8) (N := 15) hx hb hts ii_X0_readAct_X8 hown hK hP 1 (xw_is (r := 1) (by omega) (xc_fix (r := 1) (by omega))) rfl 9 (by decide) (va_Nw.use rfl (nf_X0_102 hEv)) (fun _ hh => hh) rfl dX0_readAct_61 ?_
        refine zz_top (v := (nI n28)) (by show st25 1 9 = _; rw [hf29]) ?_
        refine va_iast hx hb hK hP (xD hN _ _ _ _ _ _) hS 6 6 (xw_is (r := 6) (by omega) (xc_fix (r := 6) (by omega))) (xt_is (r := 6) (by omega) rfl) (i := (nI gl)) (vp_in_nI (by omega) (by decide)) dX0_readAct_64 (fun H locs hP _ hS => ?_)
        rw [nI_clamp (by omega)] at hP
        have hP : va_P (dC, dI) vwCl (xw A C nb (up2 st25 6 gl (nI n28)) sl26 so27) H := by rw [← xset (r := 6) (k := gl) (v := (nI n28)) (xc_fix (r := 6) (by omega))]; exact hP
        obtain ⟨st32, est32⟩ : ∃ y, y = up2 st25 6 gl (nI n28) := ⟨_, rfl⟩
        have hG : XG [1, 2, 4, 5, 6, 7, 8, 9, 12, 13, 14, 15] st st32 := by rw [est32]; exact hG.up (xz (r := 6) (k := gl) (by unfold xrg; rfl : xrg 6 gl = 0)) (xpn (c := 3) (by unfold xcl; rfl : xcl 6 gl = 3) (by decide))
        rw [← est32] at hP
        refine lv_aload_n hx hb dX0_readAct_65 rfl (lv_at hl 3 rfl) ?_
        refine va_getN (host := "OffTheLead") (D := (dC, dI)) (ci := 9) (v := va_rf (so27 1 7)) (C := RX8) (T := TX8) (N := 15) hx hb hts ii_X0_readAct_X8 hown hK hP 1 (xw_is (r := 1) (by omega) (xc_fix (r := 1) (by omega))) rfl 7 (by decide) (va_Nw.use rfl (nf_X0_50 hEv)) (fun _ hh => hh) rfl dX0_readAct_66 ?_
        obtain ⟨j33, hj33, ej33⟩ := hO.1.2
        refine zz_topq (r := some (ad j33)) (by rw [ej33]) ?_
        refine lv_astore_n (lv' := [(3, .ref (ad j33)), (4, .int 2), (0, .ref (A 4)), (1, .ref (A 1)), (2, .ref (A (36 + 20 * 0)))]) hx hb dX0_readAct_69 rfl hl (by decide) rfl (fun ls hl => ?_)
        refine lv_iload hx hb dX0_readAct_70 (lv_at hl 1 rfl) ?_
        refine lv_iconst (v := 2) hx hb dX0_readAct_72 (by decide) ?_
        refine lv_icmp_ne (tgt := 98) hx hb dX0_readAct_73 (by decide) (fun cc => absurd (by decide) cc) (fun _ => ?_)
        refine lv_aload_n hx hb dX0_readAct_76 rfl (lv_at hl 0 rfl) ?_
        refine va_gets (v := .ref (ad 9)) hx hb (EV.word hEv (i := 9) (by decide)) hS hown (hts _ mm_X0_readAct_5) (fun _ hh => hh) dX0_readAct_77 ?_
        refine lv_acmp_eq (rx := (some (ad j33))) (ry := (some (ad 9))) (tgt := 90) hx hb dX0_readAct_80 (by decide) (fun c12 => ?_) (fun c12 => ?_)
        · have c12 : j33 = 9 := (EV.eqw hEv (i := j33) (j := 9) (by omega) (by omega)).mp c12
          refine lv_iconst (v := 1) hx hb dX0_readAct_90 (by decide) ?_
          refine lv_goto (tgt := 110) hx hb dX0_readAct_91 (by decide) ?_
          refine lv_istore (lv' := [(5, .int 1), (3, .ref (ad j33)), (4, .int 2), (0, .ref (A 4)), (1, .ref (A 1)), (2, .ref (A (36 + 20 * 0)))]) hx hb dX0_readAct_110 hl (by decide) rfl (fun ls hl => ?_)
          refine lv_iload hx hb dX0_readAct_112 (lv_at hl 0 rfl) ?_
          refine lv_if_ne (tgt := 127) hx hb dX0_readAct_114 (by decide) (fun _ => ?_) (fun cc => absurd cc (by decide))
          refine lv_aload_n hx hb dX0_readAct_127 rfl (lv_at hl 4 rfl) ?_
          refine va_callv (va_runV (As := []) (rest := []) ⟨hx, hb, hml, hown, hts⟩ (x_X8_step l dC dI ad E hEE A C nb _ hN st32 sl26 so27  hG.1 hO.1) (cwV 0 hts gX0_readAct_X8_step rfl rfl rfl (by decide +kernel) ⟨Nat.le_of_ble_eq_true rfl, Nat.le_of_ble_eq_true rfl⟩) ⟨fun a U g mk q => ⟨q.1, xPre.blind hEE q.2⟩, va_recv hK hP (ci := 9) (q0 := 1) rfl (xw_is (r := 1) (by omega) (xc_fix (r := 1) (by omega))), fun U hU hW => ⟨rfl, xPre.of hEE hP hK hE hS hU hW⟩⟩ rfl rfl hl.1 rfl (lv_room (Nat.le_of_ble_eq_true rfl)) dX0_readAct_128 ⟨Nat.le_of_ble_eq_true rfl, Nat.le_of_ble_eq_true rfl⟩) hS (fun q _ h => XA.le hS.1 q h) (XA.le hS.1) (fun x t H locs ht hvm hw hB _ _ hS => ?_)
          have hP := xB.at ht hB
          clear hB ht hvm
          obtain ⟨st35, sl36, so37⟩ := x
          obtain ⟨hGst35, hLGst35, hOst35, hw⟩ := hw
          dsimp only at hGst35 hLGst35 hOst35 hw
          have hL : LGq sl sl36 := hL.tr hLGst35
          have hO : OG ad [2, 3, 4] so so37 := hO.tr hOst35 (by decide)
          have hP : va_P (dC, dI) vwCl (xw A C nb st35 sl36 so37) _ := hP
          have hG : XG [1, 2, 4, 5, 6, 7, 8, 9, 12, 13, 14, 15] st st35 := hG.tr hGst35 (by decide)
          clear hw
          refine lv_aload_n hx hb dX0_readAct_131 rfl (lv_at hl 1 rfl) ?_
          exact W.aret (v := .ref (ad j33)) hx hb hr (Or.inl ⟨_, rfl⟩) (Or.inr ⟨_, rfl⟩) (fun t ht hW => ⟨⟨(st35, sl36, so37), (ad j33), rfl, trivial, ⟨hG, hL, hO, ⟨j33, rfl, by omega, ⟨fun _ => ⟨n28, by omega, by show st35 6 gl = _; rw [hGst35.2 6 gl (by rw [(by unfold xcl; rfl : xcl 6 gl = 3)]; decide), est32, up2_same]⟩, fun hh => absurd hh (by omega)⟩, fun jj hk => by show st35 6 jj = st 6 jj; rw [hGst35.2 6 jj (by rw [(by unfold xcl; rfl : xcl 6 jj = 3)]; decide), est32, up2_ne (r := 6) (k := gl) (a := 6) (j := jj) _ _ (by omega), hGst25.2 6 jj (by rw [(by unfold xcl; rfl : xcl 6 jj = 3)]; decide)]⟩⟩, xB.of ht hP⟩, hS.F ht⟩) hS.2.2 dX0_readAct_132
        · have c12 : ¬ j33 = 9 := fun hh => c12 ((EV.eqw hEv (i := j33) (j := 9) (by omega) (by omega)).mpr hh)
          refine lv_aload_n hx hb dX0_readAct_83 rfl (lv_at hl 0 rfl) ?_
          refine va_gets (v := .ref (ad 10)) hx hb (EV.word hEv (i := 10) (by decide)) hS hown (hts _ mm_X0_readAct_6) (fun _ hh => hh) dX0_readAct_84 ?_
          refine lv_acmp_ne (rx := (some (ad j33))) (ry := (some (ad 10))) (tgt := 94) hx hb dX0_readAct_87 (by decide) (fun c14 => ?_) (fun c14 => ?_)
          · have c14 : ¬ j33 = 10 := fun hh => c14 ((EV.eqw hEv (i := j33) (j := 10) (by omega) (by omega)).mpr hh)
            refine lv_iconst (v := 0) hx hb dX0_readAct_94 (by decide) ?_
            refine lv_goto (tgt := 110) hx hb dX0_readAct_95 (by decide) ?_
            refine lv_istore (lv' := [(5, .int 0), (3, .ref (ad j33)), (4, .int 2), (0, .ref (A 4)), (1, .ref (A 1)), (2, .ref (A (36 + 20 * 0)))]) hx hb dX0_readAct_110 hl (by decide) rfl (fun ls hl => ?_)
            refine lv_iload hx hb dX0_readAct_112 (lv_at hl 0 rfl) ?_
            refine lv_if_ne (tgt := 127) hx hb dX0_readAct_114 (by decide) (fun cc => absurd (by decide) cc) (fun _ => ?_)
            refine lv_aload_n hx hb dX0_readAct_117 rfl (lv_at hl 4 rfl) ?_
            refine lv_iconst (v := 1) hx hb dX0_readAct_118 (by decide) ?_
            refine va_calli (va_runV (As := [.int 1]) (rest := []) ⟨hx, hb, hml, hown, hts⟩ (x_X8_refuse l dC dI ad E hEE A C nb _ hN st32 sl26 so27 1  hG.1) (cwV 1 hts gX0_readAct_X8_refuse rfl rfl rfl (by decide +kernel) ⟨Nat.le_of_ble_eq_true rfl, Nat.le_of_ble_eq_true rfl⟩) ⟨fun a U g mk q => ⟨q.1, xPre.blind hEE q.2⟩, va_recv hK hP (ci := 9) (q0 := 1) rfl (xw_is (r := 1) (by omega) (xc_fix (r := 1) (by omega))), fun U hU hW => ⟨rfl, xPre.of hEE hP hK hE hS hU hW⟩⟩ rfl rfl hl.1 rfl (lv_room (Nat.le_of_ble_eq_true rfl)) dX0_readAct_119 ⟨Nat.le_of_ble_eq_true rfl, Nat.le_of_ble_eq_true rfl⟩) hS (fun q _ h => XA.le hS.1 q h) (XA.le hS.1) (fun r38 x t H locs ht hvm hw hB _ _ hS => ?_)
            have hP := xB.at ht hB
            clear hB ht hvm
            obtain ⟨st39, sl40, so41⟩ := x
            obtain ⟨hGst39, hLGst39, hOst39, hw⟩ := hw
            dsimp only at hGst39 hLGst39 hOst39 hw
            have hL : LGq sl sl40 := hL.tr hLGst39
            replace hOst39 := hOst39.symm
            subst hOst39
            have hP : va_P (dC, dI) vwCl (xw A C nb st39 sl40 so27) _ := hP
            have hG : XG [1, 2, 4, 5, 6, 7, 8, 9, 12, 13, 14, 15] st st39 := hG.tr hGst39 (by decide)
            obtain ⟨rfl, hf42⟩ := hw
            refine lv_pop hx hb dX0_readAct_122 rfl ?_
            refine va_gets (v := .ref (ad 25)) hx hb (EV.word hEv (i := 25) (by decide)) hS hown (hts _ mm_X0_readAct_2) (fun _ hh => hh) dX0_readAct_123 ?_
            exact W.aret (v := .ref (ad 25)) hx hb hr (Or.inl ⟨_, rfl⟩) (Or.inr ⟨_, rfl⟩) (fun t ht hW => ⟨⟨(st39, sl40, so27), (ad 25), rfl, trivial, ⟨hG, hL, hO, ⟨25, rfl, by omega, ⟨fun hh => absurd hh (by omega), fun hh => absurd hh (by omega)⟩, fun jj hk => by show st39 6 jj = st 6 jj; rw [hGst39.2 6 jj (by rw [(by unfold xcl; rfl : xcl 6 jj = 3)]; decide), est32, up2_ne (r := 6) (k := gl) (a := 6) (j := jj) _ _ (by omega), hGst25.2 6 jj (by rw [(by unfold xcl; rfl : xcl 6 jj = 3)]; decide)]⟩⟩, xB.of ht hP⟩, hS.F ht⟩) hS.2.2 dX0_readAct_126
          · have c14 : j33 = 10 := (EV.eqw hEv (i := j33) (j := 10) (by omega) (by omega)).mp c14
            refine lv_iconst (v := 1) hx hb dX0_readAct_90 (by decide) ?_
            refine lv_goto (tgt := 110) hx hb dX0_readAct_91 (by decide) ?_
            refine lv_istore (lv' := [(5, .int 1), (3, .ref (ad j33)), (4, .int 2), (0, .ref (A 4)), (1, .ref (A 1)), (2, .ref (A (36 + 20 * 0)))]) hx hb dX0_readAct_110 hl (by decide) rfl (fun ls hl => ?_)
            refine lv_iload hx hb dX0_readAct_112 (lv_at hl 0 rfl) ?_
            refine lv_if_ne (tgt := 127) hx hb dX0_readAct_114 (by decide) (fun _ => ?_) (fun cc => absurd cc (by decide))
            refine lv_aload_n hx hb dX0_readAct_127 rfl (lv_at hl 4 rfl) ?_
            refine va_callv (va_runV (As := []) (rest := []) ⟨hx, hb, hml, hown, hts⟩ (x_X8_step l dC dI ad E hEE A C nb _ hN st32 sl26 so27  hG.1 hO.1) (cwV 0 hts gX0_readAct_X8_step rfl rfl rfl (by decide +kernel) ⟨Nat.le_of_ble_eq_true rfl, Nat.le_of_ble_eq_true rfl⟩) ⟨fun a U g mk q => ⟨q.1, xPre.blind hEE q.2⟩, va_recv hK hP (ci := 9) (q0 := 1) rfl (xw_is (r := 1) (by omega) (xc_fix (r := 1) (by omega))), fun U hU hW => ⟨rfl, xPre.of hEE hP hK hE hS hU hW⟩⟩ rfl rfl hl.1 rfl (lv_room (Nat.le_of_ble_eq_true rfl)) dX0_readAct_128 ⟨Nat.le_of_ble_eq_true rfl, Nat.le_of_ble_eq_true rfl⟩) hS (fun q _ h => XA.le hS.1 q h) (XA.le hS.1) (fun x t H locs ht hvm hw hB _ _ hS => ?_)
            have hP := xB.at ht hB
            clear hB ht hvm
            obtain ⟨st44, sl45, so46⟩ := x
            obtain ⟨hGst44, hLGst44, hOst44, hw⟩ := hw
            dsimp only at hGst44 hLGst44 hOst44 hw
            have hL : LGq sl sl45 := hL.tr hLGst44
            have hO : OG ad [2, 3, 4] so so46 := hO.tr hOst44 (by decide)
            have hP : va_P (dC, dI) vwCl (xw A C nb st44 sl45 so46) _ := hP
            have hG : XG [1, 2, 4, 5, 6, 7, 8, 9, 12, 13, 14, 15] st st44 := hG.tr hGst44 (by decide)
            clear hw
            refine lv_aload_n hx hb dX0_readAct_131 rfl (lv_at hl 1 rfl) ?_
            exact W.aret (v := .ref (ad j33)) hx hb hr (Or.inl ⟨_, rfl⟩) (Or.inr ⟨_, rfl⟩) (fun t ht hW => ⟨⟨(st44, sl45, so46), (ad j33), rfl, trivial, ⟨hG, hL, hO, ⟨j33, rfl, by omega, ⟨fun _ => ⟨n28, by omega, by show st44 6 gl = _; rw [hGst44.2 6 gl (by rw [(by unfold xcl; rfl : xcl 6 gl = 3)]; decide), est32, up2_same]⟩, fun hh => absurd hh (by omega)⟩, fun jj hk => by show st44 6 jj = st 6 jj; rw [hGst44.2 6 jj (by rw [(by unfold xcl; rfl : xcl 6 jj = 3)]; decide), est32, up2_ne (r := 6) (k := gl) (a := 6) (j := jj) _ _ (by omega), hGst25.2 6 jj (by rw [(by unfold xcl; rfl : xcl 6 jj = 3)]; decide)]⟩⟩, xB.of ht hP⟩, hS.F ht⟩) hS.2.2 dX0_readAct_132
      · refine lv_if_ne (tgt := 52) hx hb dX0_readAct_45 (by decide) (fun cc => absurd (by decide) cc) (fun _ => ?_)
        refine va_gets (v := .ref (ad 25)) hx hb (EV.word hEv (i := 25) (by decide)) hS hown (hts _ mm_X0_readAct_2) (fun _ hh => hh) dX0_readAct_48 ?_
        exact W.aret (v := .ref (ad 25)) hx hb hr (Or.inl ⟨_, rfl⟩) (Or.inr ⟨_, rfl⟩) (fun t ht hW => ⟨⟨(st25, sl26, so27), (ad 25), rfl, trivial, ⟨hG, hL, hO, ⟨25, rfl, by omega, ⟨fun hh => absurd hh (by omega), fun hh => absurd hh (by omega)⟩, fun jj hk => by show st25 6 jj = st 6 jj; rw [hGst25.2 6 jj (by rw [(by unfold xcl; rfl : xcl 6 jj = 3)]; decide)]⟩⟩, xB.of ht hP⟩, hS.F ht⟩) hS.2.2 dX0_readAct_51
  · have c1 : ¬ gw = 24 := fun hh => c1 ((EV.eqw hEv (i := gw) (j := 24) (by omega) (by omega)).mpr hh)
    refine lv_aload_n hx hb dX0_readAct_12 rfl (lv_at hl 2 rfl) ?_
    refine va_callv (va_runV (As := []) (rest := []) ⟨hx, hb, hml, hown, hts⟩ (x_X8_step l dC dI ad E hEE A C nb _ hN st sl so  hG.1 hO.1) (cwV 0 hts gX0_readAct_X8_step rfl rfl rfl (by decide +kernel) ⟨Nat.le_of_ble_eq_true rfl, Nat.le_of_ble_eq_true rfl⟩) ⟨fun a U g mk q => ⟨q.1, xPre.blind hEE q.2⟩, va_recv hK hP (ci := 9) (q0 := 1) rfl (xw_is (r := 1) (by omega) (xc_fix (r := 1) (by omega))), fun U hU hW => ⟨rfl, xPre.of hEE hP hK hE hS hU hW⟩⟩ rfl rfl hl.1 rfl (lv_room (Nat.le_of_ble_eq_true rfl)) dX0_readAct_13 ⟨Nat.le_of_ble_eq_true rfl, Nat.le_of_ble_eq_true rfl⟩) hS (fun q _ h => XA.le hS.1 q h) (XA.le hS.1) (fun x t H locs ht hvm hw hB _ _ hS => ?_)
    have hP := xB.at ht hB
    clear hB ht hvm
    obtain ⟨st48, sl49, so50⟩ := x
    obtain ⟨hGst48, hLGst48, hOst48, hw⟩ := hw
    dsimp only at hGst48 hLGst48 hOst48 hw
    have hL : LGq sl sl49 := hL.tr hLGst48
    have hO : OG ad [2, 3, 4] so so50 := hO.tr hOst48 (by decide)
    have hP : va_P (dC, dI) vwCl (xw A C nb st48 sl49 so50) _ := hP
    have hG : XG [1, 2, 4, 5, 6, 7, 8, 9, 12, 13, 14, 15] st st48 := hG.tr hGst48 (by decide)
    clear hw
    refine lv_aload_n hx hb dX0_readAct_16 rfl (lv_at hl 0 rfl) ?_
    exact W.aret (v := .ref (ad gw)) hx hb hr (Or.inl ⟨_, rfl⟩) (Or.inr ⟨_, rfl⟩) (fun t ht hW => ⟨⟨(st48, sl49, so50), (ad gw), rfl, trivial, ⟨hG, hL, hO, ⟨gw, rfl, by omega, ⟨fun hh => absurd hh (by omega), fun hh => absurd hh (by omega)⟩, fun jj hk => by show st48 6 jj = st 6 jj; rw [hGst48.2 6 jj (by rw [(by unfold xcl; rfl : xcl 6 jj = 3)]; decide)]⟩⟩, xB.of ht hP⟩, hS.F ht⟩) hS.2.2 dX0_readAct_17
set_option maxHeartbeats 4000000 in
set_option maxRecDepth 100000 in
theorem x_X0_readLine (l : Launch) (dC : Nat → ClassId) (dI : Nat → Nat → Nat) (ad : Nat → Nat) (E : EP) (hEE : EC ad E) (A : Nat → Nat) (C : Nat → ClassId) (nb sz : Nat) (hN : XN A) (st : Nat → Nat → Int32) (sl : Nat → Nat → Int64) (so : Nat → XR) (gl : Nat) (gw : Nat) (hI : XI st) (hOI : OI ad so) (hgl : st 4 5 = nI gl) (hgl2 : gl < 40) (hgw : so 1 7 = some (ad gw)) (hgw2 : gw < 26) (hgw3 : (gw = 24 ∨ gw = 5 ∨ gw = 6 ∨ gw = 7 ∨ gw = 8 ∨ gw = 12)) : Met l yX0_readLine wsX0_readLine ({ frames := 8, cells := 0, slots := 0, locals := 177 }) (va_Pc [.ref (A 4), .ref (A 1), .ref (A (36 + 20 * 0))] (xPre E dC dI A C nb sz st sl so)) (va_Qi (fun (r : Int32) (x : XT) => XG [1, 2, 4, 5, 6, 7, 8, 9, 12, 13, 14, 15] st x.1 ∧ LGq sl x.2.1 ∧ OG ad [3, 4] so x.2.2 ∧ ((r = 1 ∧ BK1 ad x.1 x.2.2 gl ∧ (∀ jj, jj < gl → x.1 6 jj = st 6 jj) ∧ (∀ jj, jj < gl → x.2.2 5 jj = so 5 jj)) ∨ (r = 0 ∧ (∀ jj, jj < gl → x.1 6 jj = st 6 jj) ∧ (∀ jj, jj < gl → x.2.2 5 jj = so 5 jj)))) (xB dC dI A C nb) (XA A sz)) 0 0 (XA A sz) := by
  refine Met.ofW (cc := cX0_readLine) (maxL := 5) (ret := (some .boolean)) (by decide) rfl ?_
  intro p e s m args below meth c s₁ B hml hv
  obtain ⟨rfl, hsz, hP, hK, hE⟩ := hv
  have hx := B.exec
  have hb := B.bytes
  have hr := B.returns
  have hts := atoms_spec (ws := wsX0_readLine) B.pre
  have hown : s.vm.findClass RX0 = some m.cls := findClass_of_methodNamed B.named
  subst hsz
  have hEv := hEE.1 _ _ _ hE
  have hS : va_S (XA A s.heap.size) s.heap s.heap [] := va_S.rf
  have hG : XG [1, 2, 4, 5, 6, 7, 8, 9, 12, 13, 14, 15] st st := XG.rf hI
  have hO : OG ad [3, 4] so so := OG.rf hOI
  have hl := lv_entry ([.ref (A 4), .ref (A 1), .ref (A (36 + 20 * 0))]) (n := 5) (Nat.le_of_ble_eq_true rfl)
  rw [lg_entry_eq]
  generalize (lg_sl ([.ref (A 4), .ref (A 1), .ref (A (36 + 20 * 0))]) ++ List.replicate (5 - (lg_sl ([.ref (A 4), .ref (A 1), .ref (A (36 + 20 * 0))])).length) Slot.unset).toArray = ls at hl ⊢
  have hl : lv_has ls 5 [(0, .ref (A 4)), (1, .ref (A 1)), (2, .ref (A (36 + 20 * 0)))] := hl
  have hL : LGq sl sl := LGq.rf
  refine lv_aload_n hx hb dX0_readLine_0 rfl (lv_at hl 0 rfl) ?_
  refine lv_aload_n hx hb dX0_readLine_1 rfl (lv_at hl 1 rfl) ?_
  refine lv_aload_n hx hb dX0_readLine_2 rfl (lv_at hl 2 rfl) ?_
  refine va_callr (va_runV (As := [.ref (A 1), .ref (A (36 + 20 * 0))]) (rest := []) ⟨hx, hb, hml, hown, hts⟩ (x_X0_readAct l dC dI ad E hEE A C nb _ hN st sl so gl gw  hG.1 hO.1 (by rw [hgl]) (by omega) (by rw [hgw]) (by omega) (by omega)) (cwV 2 hts gX0_readLine_X0_readAct rfl rfl rfl (by decide +kernel) ⟨Nat.le_of_ble_eq_true rfl, Nat.le_of_ble_eq_true rfl⟩) ⟨fun a U g mk q => ⟨q.1, xPre.blind hEE q.2⟩, va_recv hK hP (ci := 1) (q0 := 4) rfl (xw_is (r := 4) (by omega) (xc_fix (r := 4) (by omega))), fun U hU hW => ⟨rfl, xPre.of hEE hP hK hE hS hU hW⟩⟩ rfl rfl hl.1 rfl (lv_room (Nat.le_of_ble_eq_true rfl)) dX0_readLine_3 ⟨Nat.le_of_ble_eq_true rfl, Nat.le_of_ble_eq_true rfl⟩) hS (fun q _ h => XA.le hS.1 q h) (XA.le hS.1) (fun x r1 t H locs ht hvm hw hB _ _ hS => ?_)
  obtain ⟨hw, hB⟩ := hB
  have hP := xB.at ht hB
  clear hB ht hvm
  obtain ⟨st2, sl3, so4⟩ := x
  obtain ⟨hGst2, hLGst2, hOst2, hw⟩ := hw
  dsimp only at hGst2 hLGst2 hOst2 hw
  have hL : LGq sl sl3 := hL.tr hLGst2
  have hO : OG ad [3, 4] so so4 := hO.tr hOst2 (by decide)
  have hP : va_P (dC, dI) vwCl (xw A C nb st2 sl3 so4) _ := hP
  have hG : XG [1, 2, 4, 5, 6, 7, 8, 9, 12, 13, 14, 15] st st2 := hG.tr hGst2 (by decide)
  obtain ⟨n5, rfl, hf6, hf7, hf8⟩ := hw
  refine lv_astore_n (lv' := [(3, .ref (ad n5)), (0, .ref (A 4)), (1, .ref (A 1)), (2, .ref (A (36 + 20 * 0)))]) hx hb dX0_readLine_6 rfl hl (by decide) rfl (fun ls hl => ?_)
  refine lv_aload_n hx hb dX0_readLine_7 rfl (lv_at hl 1 rfl) ?_
  refine va_get (D := (dC, dI)) (ci := 1) (v := .ref (A 5)) (C := RX0) (T := TX0) (N := 7) hx hb hts ii_X0_readLine_X0 hown hK hP 4 (xw_is (r := 4) (by omega) (xc_fix (r := 4) (by omega))) rfl 0 (by decide) (hts _ mm_X0_readLine_1) (fun _ hh => hh) rfl dX0_readLine_8 ?_
  refine lv_aload_n hx hb dX0_readLine_11 rfl (lv_at hl 1 rfl) ?_
  refine va_get (D := (dC, dI)) (ci := 1) (v := .int (st2 4 5)) (C := RX0) (T := TX0) (N := 7) hx hb hts ii_X0_readLine_X0 hown hK hP 4 (xw_is (r := 4) (by omega) (xc_fix (r := 4) (by omega))) rfl 5 (by decide) (hts _ mm_X0_readLine_2) (fun _ hh => hh) rfl dX0_readLine_12 ?_
  refine zz_top (v := (nI gl)) (by show st2 4 5 = _; rw [hGst2.2 4 5 (by rw [(by decide : xcl 4 5 = 6)]; decide), hgl]) ?_
  refine lv_aload_n hx hb dX0_readLine_15 rfl (lv_at hl 0 rfl) ?_
  refine zz_astw (x := (some (ad n5))) hx hb hEv hK hP (xD hN _ _ _ _ _ _) hS 5 5 (xw_is (r := 5) (by omega) (xc_fix (r := 5) (by omega))) (xt_is (r := 5) (by omega) rfl) (isW.of (by omega)) (i := (nI gl)) (vp_in_nI (by omega) (by decide)) dX0_readLine_16 (fun H locs hP _ hS => ?_)
  rw [nI_clamp (by omega)] at hP
  have hP : va_P (dC, dI) vwCl (xw A C nb st2 sl3 (upO so4 5 gl (some (ad n5)))) H := by rw [← xsetO (r := 5) (k := gl) (v := (some (ad n5))) (xc_fix (r := 5) (by omega))]; exact hP
  obtain ⟨so9, eso9⟩ : ∃ y, y = upO so4 5 gl (some (ad n5)) := ⟨_, rfl⟩
  have hO : OG ad [3, 4] so so9 := by rw [eso9]; exact hO.up (isW.of (by omega)) (fun hh => absurd hh (by omega)) (by decide)
  rw [← eso9] at hP
  refine lv_aload_n hx hb dX0_readLine_17 rfl (lv_at hl 0 rfl) ?_
  refine va_gets (v := .ref (ad 25)) hx hb (EV.word hEv (i := 25) (by decide)) hS hown (hts _ mm_X0_readLine_3) (fun _ hh => hh) dX0_readLine_18 ?_
  refine lv_acmp_eq (rx := (some (ad n5))) (ry := (some (ad 25))) (tgt := 38) hx hb dX0_readLine_21 (by decide) (fun c1 => ?_) (fun c1 => ?_)
  · have c1 : n5 = 25 := (EV.eqw hEv (i := n5) (j := 25) (by omega) (by omega)).mp c1
    refine lv_aload_n hx hb dX0_readLine_38 rfl (lv_at hl 0 rfl) ?_
    refine va_gets (v := .ref (ad 25)) hx hb (EV.word hEv (i := 25) (by decide)) hS hown (hts _ mm_X0_readLine_3) (fun _ hh => hh) dX0_readLine_39 ?_
    refine lv_acmp_eq (rx := (some (ad n5))) (ry := (some (ad 25))) (tgt := 49) hx hb dX0_readLine_42 (by decide) (fun _ => ?_) (fun hh => absurd ((EV.eqw hEv (i := n5) (j := 25) (by omega) (by omega)).mpr (by omega)) hh)
    refine lv_iconst (v := 0) hx hb dX0_readLine_49 (by decide) ?_
    exact W.zret (v := 0) hx hb hr rfl (fun t ht hW => ⟨⟨0, (st2, sl3, so9), rfl, ⟨hG, hL, hO, Or.inr ⟨rfl, fun jj hk => by show st2 6 jj = st 6 jj; rw [hf8 jj hk], fun jj hk => by show so9 5 jj = so 5 jj; rw [eso9, upO_ne (r := 5) (k := gl) (a := 5) (j := jj) _ _ (by omega), hOst2.2 5 jj (by decide)]⟩⟩, xB.of ht hP⟩, hS.F ht⟩) hS.2.2 dX0_readLine_50
  · have c1 : ¬ n5 = 25 := fun hh => c1 ((EV.eqw hEv (i := n5) (j := 25) (by omega) (by omega)).mpr hh)
    refine lv_aload_n hx hb dX0_readLine_24 rfl (lv_at hl 0 rfl) ?_
    refine va_gets (v := .ref (ad 9)) hx hb (EV.word hEv (i := 9) (by decide)) hS hown (hts _ mm_X0_readLine_4) (fun _ hh => hh) dX0_readLine_25 ?_
    refine lv_acmp_eq (rx := (some (ad n5))) (ry := (some (ad 9))) (tgt := 38) hx hb dX0_readLine_28 (by decide) (fun c3 => ?_) (fun c3 => ?_)
    · have c3 : n5 = 9 := (EV.eqw hEv (i := n5) (j := 9) (by omega) (by omega)).mp c3
      refine lv_aload_n hx hb dX0_readLine_38 rfl (lv_at hl 0 rfl) ?_
      refine va_gets (v := .ref (ad 25)) hx hb (EV.word hEv (i := 25) (by decide)) hS hown (hts _ mm_X0_readLine_3) (fun _ hh => hh) dX0_readLine_39 ?_
      refine lv_acmp_eq (rx := (some (ad n5))) (ry := (some (ad 25))) (tgt := 49) hx hb dX0_readLine_42 (by decide) (fun hh => absurd ((EV.eqw hEv (i := n5) (j := 25) (by omega) (by omega)).mp hh) (by omega)) (fun _ => ?_)
      refine lv_iconst (v := 1) hx hb dX0_readLine_45 (by decide) ?_
      refine lv_goto (tgt := 50) hx hb dX0_readLine_46 (by decide) ?_
      exact W.zret (v := 1) hx hb hr rfl (fun t ht hW => ⟨⟨1, (st2, sl3, so9), rfl, ⟨hG, hL, hO, Or.inl ⟨rfl, BK1.of (j := n5) (by show so9 5 gl = _; rw [eso9, upO_same]) (fun k hk q => EV.inj hEv (by omega) hk q) (fun hh => by obtain ⟨m, hm, em⟩ := hf7.1 hh; exact ⟨m, hm, by show st2 6 gl = _; exact em⟩) (fun hh => by obtain ⟨m, hm, em⟩ := hf7.2 hh; exact ⟨m, hm, by show st2 6 gl = _; exact em⟩), fun jj hk => by show st2 6 jj = st 6 jj; rw [hf8 jj hk], fun jj hk => by show so9 5 jj = so 5 jj; rw [eso9, upO_ne (r := 5) (k := gl) (a := 5) (j := jj) _ _ (by omega), hOst2.2 5 jj (by decide)]⟩⟩, xB.of ht hP⟩, hS.F ht⟩) hS.2.2 dX0_readLine_50
    · have c3 : ¬ n5 = 9 := fun hh => c3 ((EV.eqw hEv (i := n5) (j := 9) (by omega) (by omega)).mpr hh)
      refine lv_aload_n hx hb dX0_readLine_31 rfl (lv_at hl 0 rfl) ?_
      refine va_gets (v := .ref (ad 10)) hx hb (EV.word hEv (i := 10) (by decide)) hS hown (hts _ mm_X0_readLine_5) (fun _ hh => hh) dX0_readLine_32 ?_
      refine lv_acmp_ne (rx := (some (ad n5))) (ry := (some (ad 10))) (tgt := 51) hx hb dX0_readLine_35 (by decide) (fun c5 => ?_) (fun c5 => ?_)
      · have c5 : ¬ n5 = 10 := fun hh => c5 ((EV.eqw hEv (i := n5) (j := 10) (by omega) (by omega)).mpr hh)
        refine lv_aload_n hx hb dX0_readLine_51 rfl (lv_at hl 0 rfl) ?_
        refine va_gets (v := .ref (ad 5)) hx hb (EV.word hEv (i := 5) (by decide)) hS hown (hts _ mm_X0_readLine_6) (fun _ hh => hh) dX0_readLine_52 ?_
        refine lv_acmp_eq (rx := (some (ad n5))) (ry := (some (ad 5))) (tgt := 65) hx hb dX0_readLine_55 (by decide) (fun c6 => ?_) (fun c6 => ?_)
        · have c6 : n5 = 5 := (EV.eqw hEv (i := n5) (j := 5) (by omega) (by omega)).mp c6
          refine lv_aload_n hx hb dX0_readLine_65 rfl (lv_at hl 0 rfl) ?_
          refine va_gets (v := .ref (ad 12)) hx hb (EV.word hEv (i := 12) (by decide)) hS hown (hts _ mm_X0_readLine_7) (fun _ hh => hh) dX0_readLine_66 ?_
          refine lv_acmp_ne (rx := (some (ad n5))) (ry := (some (ad 12))) (tgt := 82) hx hb dX0_readLine_69 (by decide) (fun _ => ?_) (fun hh => absurd ((EV.eqw hEv (i := n5) (j := 12) (by omega) (by omega)).mp hh) (by omega))
          refine lv_aload_n hx hb dX0_readLine_82 rfl (lv_at hl 2 rfl) ?_
          refine lv_iconst (v := 0) hx hb dX0_readLine_83 (by decide) ?_
          refine lv_bipush (v := 12) hx hb dX0_readLine_84 (by decide) ?_
          refine va_calli (va_runV (As := [.int 0, .int 12]) (rest := []) ⟨hx, hb, hml, hown, hts⟩ (x_X8_takeNumber l dC dI ad E hEE A C nb _ hN st2 sl3 so9 0 12  hG.1 hO.1) (cwV 2 hts gX0_readLine_X8_takeNumber rfl rfl rfl (by decide +kernel) ⟨Nat.le_of_ble_eq_true rfl, Nat.le_of_ble_eq_true rfl⟩) ⟨fun a U g mk q => ⟨q.1, xPre.blind hEE q.2⟩, va_recv hK hP (ci := 9) (q0 := 1) rfl (xw_is (r := 1) (by omega) (xc_fix (r := 1) (by omega))), fun U hU hW => ⟨rfl, xPre.of hEE hP hK hE hS hU hW⟩⟩ rfl rfl hl.1 rfl (lv_room (Nat.le_of_ble_eq_true rfl)) dX0_readLine_86 ⟨Nat.le_of_ble_eq_true rfl, Nat.le_of_ble_eq_true rfl⟩) hS (fun q _ h => XA.le hS.1 q h) (XA.le hS.1) (fun r10 x t H locs ht hvm hw hB _ _ hS => ?_)
          have hP := xB.at ht hB
          clear hB ht hvm
          obtain ⟨st11, sl12, so13⟩ := x
          obtain ⟨hGst11, hLGst11, hOst11, hw⟩ := hw
          dsimp only at hGst11 hLGst11 hOst11 hw
          have hL : LGq sl sl12 := hL.tr hLGst11
          have hO : OG ad [3, 4] so so13 := hO.tr hOst11 (by decide)
          have hP : va_P (dC, dI) vwCl (xw A C nb st11 sl12 so13) _ := hP
          have hG : XG [1, 2, 4, 5, 6, 7, 8, 9, 12, 13, 14, 15] st st11 := hG.tr hGst11 (by decide)
          rcases hw with rfl | ⟨rfl, hf14⟩
          · refine lv_istore (lv' := [(4, .int 1), (3, .ref (ad n5)), (0, .ref (A 4)), (1, .ref (A 1)), (2, .ref (A (36 + 20 * 0)))]) hx hb dX0_readLine_89 hl (by decide) rfl (fun ls hl => ?_)
            refine lv_aload_n hx hb dX0_readLine_91 rfl (lv_at hl 2 rfl) ?_
            refine va_get (D := (dC, dI)) (ci := 1) (v := .ref (A 6)) (C := RX0) (T := TX0) (N := 7) hx hb hts ii_X0_readLine_X0 hown hK hP 4 (xw_is (r := 4) (by omega) (xc_fix (r := 4) (by omega))) rfl 1 (by decide) (hts _ mm_X0_readLine_8) (fun _ hh => hh) rfl dX0_readLine_92 ?_
            refine lv_aload_n hx hb dX0_readLine_95 rfl (lv_at hl 2 rfl) ?_
            refine va_get (D := (dC, dI)) (ci := 1) (v := .int (st11 4 5)) (C := RX0) (T := TX0) (N := 7) hx hb hts ii_X0_readLine_X0 hown hK hP 4 (xw_is (r := 4) (by omega) (xc_fix (r := 4) (by omega))) rfl 5 (by decide) (hts _ mm_X0_readLine_2) (fun _ hh => hh) rfl dX0_readLine_96 ?_
            refine zz_top (v := (nI gl)) (by show st11 4 5 = _; rw [hGst11.2 4 5 (by rw [(by decide : xcl 4 5 = 6)]; decide), hGst2.2 4 5 (by rw [(by decide : xcl 4 5 = 6)]; decide), hgl]) ?_
            refine lv_aload_n hx hb dX0_readLine_99 rfl (lv_at hl 3 rfl) ?_
            refine va_getN (host := "OffTheLead") (D := (dC, dI)) (ci := 9) (v := .int (st11 1 9)) (C := RX8) (T := TX8) (N := 15) hx hb hts ii_X0_readLine_X8 hown hK hP 1 (xw_is (r := 1) (by omega) (xc_fix (r := 1) (by omega))) rfl 9 (by decide) (va_Nw.use rfl (nf_X0_102 hEv)) (fun _ hh => hh) rfl dX0_readLine_100 ?_
            obtain ⟨z15, ez15⟩ : ∃ y : Int32, st11 1 9 = y := ⟨_, rfl⟩
            refine zz_top (v := z15) (by exact ez15) ?_
            refine va_iast hx hb hK hP (xD hN _ _ _ _ _ _) hS 6 6 (xw_is (r := 6) (by omega) (xc_fix (r := 6) (by omega))) (xt_is (r := 6) (by omega) rfl) (i := (nI gl)) (vp_in_nI (by omega) (by decide)) dX0_readLine_103 (fun H locs hP _ hS => ?_)
            rw [nI_clamp (by omega)] at hP
            have hP : va_P (dC, dI) vwCl (xw A C nb (up2 st11 6 gl z15) sl12 so13) H := by rw [← xset (r := 6) (k := gl) (v := z15) (xc_fix (r := 6) (by omega))]; exact hP
            obtain ⟨st16, est16⟩ : ∃ y, y = up2 st11 6 gl z15 := ⟨_, rfl⟩
            have hG : XG [1, 2, 4, 5, 6, 7, 8, 9, 12, 13, 14, 15] st st16 := by rw [est16]; exact hG.up (xz (r := 6) (k := gl) (by unfold xrg; rfl : xrg 6 gl = 0)) (xpn (c := 3) (by unfold xcl; rfl : xcl 6 gl = 3) (by decide))
            rw [← est16] at hP
            refine lv_iload hx hb dX0_readLine_104 (lv_at hl 0 rfl) ?_
            exact W.zret (v := 1) hx hb hr rfl (fun t ht hW => ⟨⟨1, (st16, sl12, so13), rfl, ⟨hG, hL, hO, Or.inl ⟨rfl, BK1.of (j := n5) (by show so13 5 gl = _; rw [hOst11.2 5 gl (by decide), eso9, upO_same]) (fun k hk q => EV.inj hEv (by omega) hk q) (fun hh => absurd hh (by omega)) (fun hh => absurd hh (by omega)), fun jj hk => by show st16 6 jj = st 6 jj; rw [est16, up2_ne (r := 6) (k := gl) (a := 6) (j := jj) _ _ (by omega), hGst11.2 6 jj (by rw [(by unfold xcl; rfl : xcl 6 jj = 3)]; decide), hf8 jj hk], fun jj hk => by show so13 5 jj = so 5 jj; rw [hOst11.2 5 jj (by decide), eso9, upO_ne (r := 5) (k := gl) (a := 5) (j := jj) _ _ (by omega), hOst2.2 5 jj (by decide)]⟩⟩, xB.of ht hP⟩, hS.F ht⟩) hS.2.2 dX0_readLine_106
          · refine lv_istore (lv' := [(4, .int 0), (3, .ref (ad n5)), (0, .ref (A 4)), (1, .ref (A 1)), (2, .ref (A (36 + 20 * 0)))]) hx hb dX0_readLine_89 hl (by decide) rfl (fun ls hl => ?_)
            refine lv_aload_n hx hb dX0_readLine_91 rfl (lv_at hl 2 rfl) ?_
            refine va_get (D := (dC, dI)) (ci := 1) (v := .ref (A 6)) (C := RX0) (T := TX0) (N := 7) hx hb hts ii_X0_readLine_X0 hown hK hP 4 (xw_is (r := 4) (by omega) (xc_fix (r := 4) (by omega))) rfl 1 (by decide) (hts _ mm_X0_readLine_8) (fun _ hh => hh) rfl dX0_readLine_92 ?_
            refine lv_aload_n hx hb dX0_readLine_95 rfl (lv_at hl 2 rfl) ?_
            refine va_get (D := (dC, dI)) (ci := 1) (v := .int (st11 4 5)) (C := RX0) (T := TX0) (N := 7) hx hb hts ii_X0_readLine_X0 hown hK hP 4 (xw_is (r := 4) (by omega) (xc_fix (r := 4) (by omega))) rfl 5 (by decide) (hts _ mm_X0_readLine_2) (fun _ hh => hh) rfl dX0_readLine_96 ?_
            refine zz_top (v := (nI gl)) (by show st11 4 5 = _; rw [hGst11.2 4 5 (by rw [(by decide : xcl 4 5 = 6)]; decide), hGst2.2 4 5 (by rw [(by decide : xcl 4 5 = 6)]; decide), hgl]) ?_
            refine lv_aload_n hx hb dX0_readLine_99 rfl (lv_at hl 3 rfl) ?_
            refine va_getN (host := "OffTheLead") (D := (dC, dI)) (ci := 9) (v := .int (st11 1 9)) (C := RX8) (T := TX8) (N := 15) hx hb hts ii_X0_readLine_X8 hown hK hP 1 (xw_is (r := 1) (by omega) (xc_fix (r := 1) (by omega))) rfl 9 (by decide) (va_Nw.use rfl (nf_X0_102 hEv)) (fun _ hh => hh) rfl dX0_readLine_100 ?_
            obtain ⟨z17, ez17⟩ : ∃ y : Int32, st11 1 9 = y := ⟨_, rfl⟩
            refine zz_top (v := z17) (by exact ez17) ?_
            refine va_iast hx hb hK hP (xD hN _ _ _ _ _ _) hS 6 6 (xw_is (r := 6) (by omega) (xc_fix (r := 6) (by omega))) (xt_is (r := 6) (by omega) rfl) (i := (nI gl)) (vp_in_nI (by omega) (by decide)) dX0_readLine_103 (fun H locs hP _ hS => ?_)
            rw [nI_clamp (by omega)] at hP
            have hP : va_P (dC, dI) vwCl (xw A C nb (up2 st11 6 gl z17) sl12 so13) H := by rw [← xset (r := 6) (k := gl) (v := z17) (xc_fix (r := 6) (by omega))]; exact hP
            obtain ⟨st18, est18⟩ : ∃ y, y = up2 st11 6 gl z17 := ⟨_, rfl⟩
            have hG : XG [1, 2, 4, 5, 6, 7, 8, 9, 12, 13, 14, 15] st st18 := by rw [est18]; exact hG.up (xz (r := 6) (k := gl) (by unfold xrg; rfl : xrg 6 gl = 0)) (xpn (c := 3) (by unfold xcl; rfl : xcl 6 gl = 3) (by decide))
            rw [← est18] at hP
            refine lv_iload hx hb dX0_readLine_104 (lv_at hl 0 rfl) ?_
            exact W.zret (v := 0) hx hb hr rfl (fun t ht hW => ⟨⟨0, (st18, sl12, so13), rfl, ⟨hG, hL, hO, Or.inr ⟨rfl, fun jj hk => by show st18 6 jj = st 6 jj; rw [est18, up2_ne (r := 6) (k := gl) (a := 6) (j := jj) _ _ (by omega), hGst11.2 6 jj (by rw [(by unfold xcl; rfl : xcl 6 jj = 3)]; decide), hf8 jj hk], fun jj hk => by show so13 5 jj = so 5 jj; rw [hOst11.2 5 jj (by decide), eso9, upO_ne (r := 5) (k := gl) (a := 5) (j := jj) _ _ (by omega), hOst2.2 5 jj (by decide)]⟩⟩, xB.of ht hP⟩, hS.F ht⟩) hS.2.2 dX0_readLine_106
        · have c6 : ¬ n5 = 5 := fun hh => c6 ((EV.eqw hEv (i := n5) (j := 5) (by omega) (by omega)).mpr hh)
          refine lv_aload_n hx hb dX0_readLine_58 rfl (lv_at hl 0 rfl) ?_
          refine va_gets (v := .ref (ad 12)) hx hb (EV.word hEv (i := 12) (by decide)) hS hown (hts _ mm_X0_readLine_7) (fun _ hh => hh) dX0_readLine_59 ?_
          refine lv_acmp_ne (rx := (some (ad n5))) (ry := (some (ad 12))) (tgt := 107) hx hb dX0_readLine_62 (by decide) (fun c8 => ?_) (fun c8 => ?_)
          · have c8 : ¬ n5 = 12 := fun hh => c8 ((EV.eqw hEv (i := n5) (j := 12) (by omega) (by omega)).mpr hh)
            refine lv_aload_n hx hb dX0_readLine_107 rfl (lv_at hl 2 rfl) ?_
            refine lv_aload_n hx hb dX0_readLine_108 rfl (lv_at hl 3 rfl) ?_
            refine lv_iconst (v := 0) hx hb dX0_readLine_109 (by decide) ?_
            refine va_calli (va_runV (As := [.ref (A (36 + 20 * 0)), .int 0]) (rest := []) ⟨hx, hb, hml, hown, hts⟩ (x_takeNamed0 l dC dI ad E hEE A C nb _ hN st2 sl3 so9 0 (by omega) hG.1 hO.1) (cwV 2 hts gX0_readLine_X8_takeNamed rfl rfl rfl (by decide +kernel) ⟨Nat.le_of_ble_eq_true rfl, Nat.le_of_ble_eq_true rfl⟩) ⟨fun a U g mk q => ⟨q.1, xPre.blind hEE q.2⟩, va_recv hK hP (ci := 9) (q0 := 1) rfl (xw_is (r := 1) (by omega) (xc_fix (r := 1) (by omega))), fun U hU hW => ⟨rfl, xPre.of hEE hP hK hE hS hU hW⟩⟩ rfl rfl hl.1 rfl (lv_room (Nat.le_of_ble_eq_true rfl)) dX0_readLine_110 ⟨Nat.le_of_ble_eq_true rfl, Nat.le_of_ble_eq_true rfl⟩) hS (fun q _ h => XA.le hS.1 q h) (XA.le hS.1) (fun r19 x t H locs ht hvm hw hB _ _ hS => ?_)
            have hP := xB.at ht hB
            clear hB ht hvm
            obtain ⟨st20, sl21, so22⟩ := x
            obtain ⟨hGst20, hLGst20, hOst20, hw⟩ := hw
            dsimp only at hGst20 hLGst20 hOst20 hw
            have hL : LGq sl sl21 := hL.tr hLGst20
            have hO : OG ad [3, 4] so so22 := hO.tr hOst20 (by decide)
            have hP : va_P (dC, dI) vwCl (xw A C nb st20 sl21 so22) _ := hP
            have hG : XG [1, 2, 4, 5, 6, 7, 8, 9, 12, 13, 14, 15] st st20 := hG.tr hGst20 (by decide)
            rcases hw with ⟨n23, rfl, hf24, hf25⟩ | ⟨rfl, hf26⟩
            · refine lv_if_ne (tgt := 118) hx hb dX0_readLine_113 (by decide) (fun _ => ?_) (fun cc => absurd cc (by decide))
              refine lv_aload_n hx hb dX0_readLine_118 rfl (lv_at hl 1 rfl) ?_
              refine va_get (D := (dC, dI)) (ci := 1) (v := .ref (A 7)) (C := RX0) (T := TX0) (N := 7) hx hb hts ii_X0_readLine_X0 hown hK hP 4 (xw_is (r := 4) (by omega) (xc_fix (r := 4) (by omega))) rfl 2 (by decide) (hts _ mm_X0_readLine_9) (fun _ hh => hh) rfl dX0_readLine_119 ?_
              refine lv_aload_n hx hb dX0_readLine_122 rfl (lv_at hl 1 rfl) ?_
              refine va_get (D := (dC, dI)) (ci := 1) (v := .int (st20 4 5)) (C := RX0) (T := TX0) (N := 7) hx hb hts ii_X0_readLine_X0 hown hK hP 4 (xw_is (r := 4) (by omega) (xc_fix (r := 4) (by omega))) rfl 5 (by decide) (hts _ mm_X0_readLine_2) (fun _ hh => hh) rfl dX0_readLine_123 ?_
              refine zz_top (v := (nI gl)) (by show st20 4 5 = _; rw [hGst20.2 4 5 (by rw [(by decide : xcl 4 5 = 6)]; decide), hGst2.2 4 5 (by rw [(by decide : xcl 4 5 = 6)]; decide), hgl]) ?_
              refine lv_aload_n hx hb dX0_readLine_126 rfl (lv_at hl 2 rfl) ?_
              refine va_getN (host := "OffTheLead") (D := (dC, dI)) (ci := 9) (v := .int (st20 1 9)) (C := RX8) (T := TX8) (N := 15) hx hb hts ii_X0_readLine_X8 hown hK hP 1 (xw_is (r := 1) (by omega) (xc_fix (r := 1) (by omega))) rfl 9 (by decide) (va_Nw.use rfl (nf_X0_102 hEv)) (fun _ hh => hh) rfl dX0_readLine_127 ?_
              refine zz_top (v := (nI n23)) (by show st20 1 9 = _; rw [hf24]) ?_
              refine va_iast hx hb hK hP (xD hN _ _ _ _ _ _) hS 7 7 (xw_is (r := 7) (by omega) (xc_fix (r := 7) (by omega))) (xt_is (r := 7) (by omega) rfl) (i := (nI gl)) (vp_in_nI (by omega) (by decide)) dX0_readLine_130 (fun H locs hP _ hS => ?_)
              rw [nI_clamp (by omega)] at hP
              have hP : va_P (dC, dI) vwCl (xw A C nb (up2 st20 7 gl (nI n23)) sl21 so22) H := by rw [← xset (r := 7) (k := gl) (v := (nI n23)) (xc_fix (r := 7) (by omega))]; exact hP
              obtain ⟨st27, est27⟩ : ∃ y, y = up2 st20 7 gl (nI n23) := ⟨_, rfl⟩
              have hG : XG [1, 2, 4, 5, 6, 7, 8, 9, 12, 13, 14, 15] st st27 := by rw [est27]; exact hG.up (xn (n := n23) (b := 5) (by unfold xrg; rfl : xrg 7 gl = 5) (by omega)) (xpn (c := 0) (by unfold xcl; rfl : xcl 7 gl = 0) (by decide))
              rw [← est27] at hP
              refine lv_aload_n hx hb dX0_readLine_131 rfl (lv_at hl 0 rfl) ?_
              refine va_gets (v := .ref (ad 8)) hx hb (EV.word hEv (i := 8) (by decide)) hS hown (hts _ mm_X0_readLine_10) (fun _ hh => hh) dX0_readLine_132 ?_
              refine lv_acmp_ne (rx := (some (ad n5))) (ry := (some (ad 8))) (tgt := 140) hx hb dX0_readLine_135 (by decide) (fun c10 => ?_) (fun c10 => ?_)
              · have c10 : ¬ n5 = 8 := fun hh => c10 ((EV.eqw hEv (i := n5) (j := 8) (by omega) (by omega)).mpr hh)
                refine lv_aload_n hx hb dX0_readLine_140 rfl (lv_at hl 2 rfl) ?_
                refine va_calli (va_runV (As := []) (rest := []) ⟨hx, hb, hml, hown, hts⟩ (x_X8_takeHours l dC dI ad E hEE A C nb _ hN st27 sl21 so22  hG.1 hO.1) (cwV 0 hts gX0_readLine_X8_takeHours rfl rfl rfl (by decide +kernel) ⟨Nat.le_of_ble_eq_true rfl, Nat.le_of_ble_eq_true rfl⟩) ⟨fun a U g mk q => ⟨q.1, xPre.blind hEE q.2⟩, va_recv hK hP (ci := 9) (q0 := 1) rfl (xw_is (r := 1) (by omega) (xc_fix (r := 1) (by omega))), fun U hU hW => ⟨rfl, xPre.of hEE hP hK hE hS hU hW⟩⟩ rfl rfl hl.1 rfl (lv_room (Nat.le_of_ble_eq_true rfl)) dX0_readLine_141 ⟨Nat.le_of_ble_eq_true rfl, Nat.le_of_ble_eq_true rfl⟩) hS (fun q _ h => XA.le hS.1 q h) (XA.le hS.1) (fun r28 x t H locs ht hvm hw hB _ _ hS => ?_)
                have hP := xB.at ht hB
                clear hB ht hvm
                obtain ⟨st29, sl30, so31⟩ := x
                obtain ⟨hGst29, hLGst29, hOst29, hw⟩ := hw
                dsimp only at hGst29 hLGst29 hOst29 hw
                have hL : LGq sl sl30 := hL.tr hLGst29
                have hO : OG ad [3, 4] so so31 := hO.tr hOst29 (by decide)
                have hP : va_P (dC, dI) vwCl (xw A C nb st29 sl30 so31) _ := hP
                have hG : XG [1, 2, 4, 5, 6, 7, 8, 9, 12, 13, 14, 15] st st29 := hG.tr hGst29 (by decide)
                rcases hw with rfl | ⟨rfl, hf32⟩
                · refine lv_istore (lv' := [(4, .int 1), (3, .ref (ad n5)), (0, .ref (A 4)), (1, .ref (A 1)), (2, .ref (A (36 + 20 * 0)))]) hx hb dX0_readLine_144 hl (by decide) rfl (fun ls hl => ?_)
                  refine lv_aload_n hx hb dX0_readLine_146 rfl (lv_at hl 2 rfl) ?_
                  refine va_get (D := (dC, dI)) (ci := 1) (v := .ref (A 8)) (C := RX0) (T := TX0) (N := 7) hx hb hts ii_X0_readLine_X0 hown hK hP 4 (xw_is (r := 4) (by omega) (xc_fix (r := 4) (by omega))) rfl 3 (by decide) (hts _ mm_X0_readLine_11) (fun _ hh => hh) rfl dX0_readLine_147 ?_
                  refine lv_aload_n hx hb dX0_readLine_150 rfl (lv_at hl 2 rfl) ?_
                  refine va_get (D := (dC, dI)) (ci := 1) (v := .int (st29 4 5)) (C := RX0) (T := TX0) (N := 7) hx hb hts ii_X0_readLine_X0 hown hK hP 4 (xw_is (r := 4) (by omega) (xc_fix (r := 4) (by omega))) rfl 5 (by decide) (hts _ mm_X0_readLine_2) (fun _ hh => hh) rfl dX0_readLine_151 ?_
                  refine zz_top (v := (nI gl)) (by show st29 4 5 = _; rw [hGst29.2 4 5 (by rw [(by decide : xcl 4 5 = 6)]; decide), est27, up2_ne (r := 7) (k := gl) (a := 4) (j := 5) _ _ (by omega), hGst20.2 4 5 (by rw [(by decide : xcl 4 5 = 6)]; decide), hGst2.2 4 5 (by rw [(by decide : xcl 4 5 = 6)]; decide), hgl]) ?_
                  refine lv_aload_n hx hb dX0_readLine_154 rfl (lv_at hl 3 rfl) ?_
                  refine va_getN (host := "OffTheLead") (D := (dC, dI)) (ci := 9) (v := .int (st29 1 11)) (C := RX8) (T := TX8) (N := 15) hx hb hts ii_X0_readLine_X8 hown hK hP 1 (xw_is (r := 1) (by omega) (xc_fix (r := 1) (by omega))) rfl 11 (by decide) (va_Nw.use rfl (nf_X0_113 hEv)) (fun _ hh => hh) rfl dX0_readLine_155 ?_
                  obtain ⟨z33, ez33⟩ : ∃ y : Int32, st29 1 11 = y := ⟨_, rfl⟩
                  refine zz_top (v := z33) (by exact ez33) ?_
                  refine va_iast hx hb hK hP (xD hN _ _ _ _ _ _) hS 8 8 (xw_is (r := 8) (by omega) (xc_fix (r := 8) (by omega))) (xt_is (r := 8) (by omega) rfl) (i := (nI gl)) (vp_in_nI (by omega) (by decide)) dX0_readLine_158 (fun H locs hP _ hS => ?_)
                  rw [nI_clamp (by omega)] at hP
                  have hP : va_P (dC, dI) vwCl (xw A C nb (up2 st29 8 gl z33) sl30 so31) H := by rw [← xset (r := 8) (k := gl) (v := z33) (xc_fix (r := 8) (by omega))]; exact hP
                  obtain ⟨st34, est34⟩ : ∃ y, y = up2 st29 8 gl z33 := ⟨_, rfl⟩
                  have hG : XG [1, 2, 4, 5, 6, 7, 8, 9, 12, 13, 14, 15] st st34 := by rw [est34]; exact hG.up (xz (r := 8) (k := gl) (by unfold xrg; rfl : xrg 8 gl = 0)) (xpn (c := 0) (by unfold xcl; rfl : xcl 8 gl = 0) (by decide))
                  rw [← est34] at hP
                  refine lv_aload_n hx hb dX0_readLine_159 rfl (lv_at hl 2 rfl) ?_
                  refine va_get (D := (dC, dI)) (ci := 1) (v := .ref (A 9)) (C := RX0) (T := TX0) (N := 7) hx hb hts ii_X0_readLine_X0 hown hK hP 4 (xw_is (r := 4) (by omega) (xc_fix (r := 4) (by omega))) rfl 4 (by decide) (hts _ mm_X0_readLine_12) (fun _ hh => hh) rfl dX0_readLine_160 ?_
                  refine lv_aload_n hx hb dX0_readLine_163 rfl (lv_at hl 2 rfl) ?_
                  refine va_get (D := (dC, dI)) (ci := 1) (v := .int (st34 4 5)) (C := RX0) (T := TX0) (N := 7) hx hb hts ii_X0_readLine_X0 hown hK hP 4 (xw_is (r := 4) (by omega) (xc_fix (r := 4) (by omega))) rfl 5 (by decide) (hts _ mm_X0_readLine_2) (fun _ hh => hh) rfl dX0_readLine_164 ?_
                  refine zz_top (v := (nI gl)) (by show st34 4 5 = _; rw [est34, up2_ne (r := 8) (k := gl) (a := 4) (j := 5) _ _ (by omega), hGst29.2 4 5 (by rw [(by decide : xcl 4 5 = 6)]; decide), est27, up2_ne (r := 7) (k := gl) (a := 4) (j := 5) _ _ (by omega), hGst20.2 4 5 (by rw [(by decide : xcl 4 5 = 6)]; decide), hGst2.2 4 5 (by rw [(by decide : xcl 4 5 = 6)]; decide), hgl]) ?_
                  refine lv_aload_n hx hb dX0_readLine_167 rfl (lv_at hl 3 rfl) ?_
                  refine va_getN (host := "OffTheLead") (D := (dC, dI)) (ci := 9) (v := .int (st34 1 12)) (C := RX8) (T := TX8) (N := 15) hx hb hts ii_X0_readLine_X8 hown hK hP 1 (xw_is (r := 1) (by omega) (xc_fix (r := 1) (by omega))) rfl 12 (by decide) (va_Nw.use rfl (nf_X0_116 hEv)) (fun _ hh => hh) rfl dX0_readLine_168 ?_
                  obtain ⟨z35, ez35⟩ : ∃ y : Int32, st34 1 12 = y := ⟨_, rfl⟩
                  refine zz_top (v := z35) (by exact ez35) ?_
                  refine va_iast hx hb hK hP (xD hN _ _ _ _ _ _) hS 9 9 (xw_is (r := 9) (by omega) (xc_fix (r := 9) (by omega))) (xt_is (r := 9) (by omega) rfl) (i := (nI gl)) (vp_in_nI (by omega) (by decide)) dX0_readLine_171 (fun H locs hP _ hS => ?_)
                  rw [nI_clamp (by omega)] at hP
                  have hP : va_P (dC, dI) vwCl (xw A C nb (up2 st34 9 gl z35) sl30 so31) H := by rw [← xset (r := 9) (k := gl) (v := z35) (xc_fix (r := 9) (by omega))]; exact hP
                  obtain ⟨st36, est36⟩ : ∃ y, y = up2 st34 9 gl z35 := ⟨_, rfl⟩
                  have hG : XG [1, 2, 4, 5, 6, 7, 8, 9, 12, 13, 14, 15] st st36 := by rw [est36]; exact hG.up (xz (r := 9) (k := gl) (by unfold xrg; rfl : xrg 9 gl = 0)) (xpn (c := 0) (by unfold xcl; rfl : xcl 9 gl = 0) (by decide))
                  rw [← est36] at hP
                  refine lv_iload hx hb dX0_readLine_172 (lv_at hl 0 rfl) ?_
                  exact W.zret (v := 1) hx hb hr rfl (fun t ht hW => ⟨⟨1, (st36, sl30, so31), rfl, ⟨hG, hL, hO, Or.inl ⟨rfl, BK1.of (j := n5) (by show so31 5 gl = _; rw [hOst29.2 5 gl (by decide), hOst20.2 5 gl (by decide), eso9, upO_same]) (fun k hk q => EV.inj hEv (by omega) hk q) (fun hh => by obtain ⟨m, hm, em⟩ := hf7.1 hh; exact ⟨m, hm, by show st36 6 gl = _; rw [est36, up2_ne (r := 9) (k := gl) (a := 6) (j := gl) _ _ (by omega), est34, up2_ne (r := 8) (k := gl) (a := 6) (j := gl) _ _ (by omega), hGst29.2 6 gl (by rw [(by unfold xcl; rfl : xcl 6 gl = 3)]; decide), est27, up2_ne (r := 7) (k := gl) (a := 6) (j := gl) _ _ (by omega), hGst20.2 6 gl (by rw [(by unfold xcl; rfl : xcl 6 gl = 3)]; decide)]; exact em⟩) (fun hh => by obtain ⟨m, hm, em⟩ := hf7.2 hh; exact ⟨m, hm, by show st36 6 gl = _; rw [est36, up2_ne (r := 9) (k := gl) (a := 6) (j := gl) _ _ (by omega), est34, up2_ne (r := 8) (k := gl) (a := 6) (j := gl) _ _ (by omega), hGst29.2 6 gl (by rw [(by unfold xcl; rfl : xcl 6 gl = 3)]; decide), est27, up2_ne (r := 7) (k := gl) (a := 6) (j := gl) _ _ (by omega), hGst20.2 6 gl (by rw [(by unfold xcl; rfl : xcl 6 gl = 3)]; decide)]; exact em⟩), fun jj hk => by show st36 6 jj = st 6 jj; rw [est36, up2_ne (r := 9) (k := gl) (a := 6) (j := jj) _ _ (by omega), est34, up2_ne (r := 8) (k := gl) (a := 6) (j := jj) _ _ (by omega), hGst29.2 6 jj (by rw [(by unfold xcl; rfl : xcl 6 jj = 3)]; decide), est27, up2_ne (r := 7) (k := gl) (a := 6) (j := jj) _ _ (by omega), hGst20.2 6 jj (by rw [(by unfold xcl; rfl : xcl 6 jj = 3)]; decide), hf8 jj hk], fun jj hk => by show so31 5 jj = so 5 jj; rw [hOst29.2 5 jj (by decide), hOst20.2 5 jj (by decide), eso9, upO_ne (r := 5) (k := gl) (a := 5) (j := jj) _ _ (by omega), hOst2.2 5 jj (by decide)]⟩⟩, xB.of ht hP⟩, hS.F ht⟩) hS.2.2 dX0_readLine_174
                · refine lv_istore (lv' := [(4, .int 0), (3, .ref (ad n5)), (0, .ref (A 4)), (1, .ref (A 1)), (2, .ref (A (36 + 20 * 0)))]) hx hb dX0_readLine_144 hl (by decide) rfl (fun ls hl => ?_)
                  refine lv_aload_n hx hb dX0_readLine_146 rfl (lv_at hl 2 rfl) ?_
                  refine va_get (D := (dC, dI)) (ci := 1) (v := .ref (A 8)) (C := RX0) (T := TX0) (N := 7) hx hb hts ii_X0_readLine_X0 hown hK hP 4 (xw_is (r := 4) (by omega) (xc_fix (r := 4) (by omega))) rfl 3 (by decide) (hts _ mm_X0_readLine_11) (fun _ hh => hh) rfl dX0_readLine_147 ?_
                  refine lv_aload_n hx hb dX0_readLine_150 rfl (lv_at hl 2 rfl) ?_
                  refine va_get (D := (dC, dI)) (ci := 1) (v := .int (st29 4 5)) (C := RX0) (T := TX0) (N := 7) hx hb hts ii_X0_readLine_X0 hown hK hP 4 (xw_is (r := 4) (by omega) (xc_fix (r := 4) (by omega))) rfl 5 (by decide) (hts _ mm_X0_readLine_2) (fun _ hh => hh) rfl dX0_readLine_151 ?_
                  refine zz_top (v := (nI gl)) (by show st29 4 5 = _; rw [hGst29.2 4 5 (by rw [(by decide : xcl 4 5 = 6)]; decide), est27, up2_ne (r := 7) (k := gl) (a := 4) (j := 5) _ _ (by omega), hGst20.2 4 5 (by rw [(by decide : xcl 4 5 = 6)]; decide), hGst2.2 4 5 (by rw [(by decide : xcl 4 5 = 6)]; decide), hgl]) ?_
                  refine lv_aload_n hx hb dX0_readLine_154 rfl (lv_at hl 3 rfl) ?_
                  refine va_getN (host := "OffTheLead") (D := (dC, dI)) (ci := 9) (v := .int (st29 1 11)) (C := RX8) (T := TX8) (N := 15) hx hb hts ii_X0_readLine_X8 hown hK hP 1 (xw_is (r := 1) (by omega) (xc_fix (r := 1) (by omega))) rfl 11 (by decide) (va_Nw.use rfl (nf_X0_113 hEv)) (fun _ hh => hh) rfl dX0_readLine_155 ?_
                  obtain ⟨z37, ez37⟩ : ∃ y : Int32, st29 1 11 = y := ⟨_, rfl⟩
                  refine zz_top (v := z37) (by exact ez37) ?_
                  refine va_iast hx hb hK hP (xD hN _ _ _ _ _ _) hS 8 8 (xw_is (r := 8) (by omega) (xc_fix (r := 8) (by omega))) (xt_is (r := 8) (by omega) rfl) (i := (nI gl)) (vp_in_nI (by omega) (by decide)) dX0_readLine_158 (fun H locs hP _ hS => ?_)
                  rw [nI_clamp (by omega)] at hP
                  have hP : va_P (dC, dI) vwCl (xw A C nb (up2 st29 8 gl z37) sl30 so31) H := by rw [← xset (r := 8) (k := gl) (v := z37) (xc_fix (r := 8) (by omega))]; exact hP
                  obtain ⟨st38, est38⟩ : ∃ y, y = up2 st29 8 gl z37 := ⟨_, rfl⟩
                  have hG : XG [1, 2, 4, 5, 6, 7, 8, 9, 12, 13, 14, 15] st st38 := by rw [est38]; exact hG.up (xz (r := 8) (k := gl) (by unfold xrg; rfl : xrg 8 gl = 0)) (xpn (c := 0) (by unfold xcl; rfl : xcl 8 gl = 0) (by decide))
                  rw [← est38] at hP
                  refine lv_aload_n hx hb dX0_readLine_159 rfl (lv_at hl 2 rfl) ?_
                  refine va_get (D := (dC, dI)) (ci := 1) (v := .ref (A 9)) (C := RX0) (T := TX0) (N := 7) hx hb hts ii_X0_readLine_X0 hown hK hP 4 (xw_is (r := 4) (by omega) (xc_fix (r := 4) (by omega))) rfl 4 (by decide) (hts _ mm_X0_readLine_12) (fun _ hh => hh) rfl dX0_readLine_160 ?_
                  refine lv_aload_n hx hb dX0_readLine_163 rfl (lv_at hl 2 rfl) ?_
                  refine va_get (D := (dC, dI)) (ci := 1) (v := .int (st38 4 5)) (C := RX0) (T := TX0) (N := 7) hx hb hts ii_X0_readLine_X0 hown hK hP 4 (xw_is (r := 4) (by omega) (xc_fix (r := 4) (by omega))) rfl 5 (by decide) (hts _ mm_X0_readLine_2) (fun _ hh => hh) rfl dX0_readLine_164 ?_
                  refine zz_top (v := (nI gl)) (by show st38 4 5 = _; rw [est38, up2_ne (r := 8) (k := gl) (a := 4) (j := 5) _ _ (by omega), hGst29.2 4 5 (by rw [(by decide : xcl 4 5 = 6)]; decide), est27, up2_ne (r := 7) (k := gl) (a := 4) (j := 5) _ _ (by omega), hGst20.2 4 5 (by rw [(by decide : xcl 4 5 = 6)]; decide), hGst2.2 4 5 (by rw [(by decide : xcl 4 5 = 6)]; decide), hgl]) ?_
                  refine lv_aload_n hx hb dX0_readLine_167 rfl (lv_at hl 3 rfl) ?_
                  refine va_getN (host := "OffTheLead") (D := (dC, dI)) (ci := 9) (v := .int (st38 1 12)) (C := RX8) (T := TX8) (N := 15) hx hb hts ii_X0_readLine_X8 hown hK hP 1 (xw_is (r := 1) (by omega) (xc_fix (r := 1) (by omega))) rfl 12 (by decide) (va_Nw.use rfl (nf_X0_116 hEv)) (fun _ hh => hh) rfl dX0_readLine_168 ?_
                  obtain ⟨z39, ez39⟩ : ∃ y : Int32, st38 1 12 = y := ⟨_, rfl⟩
                  refine zz_top (v := z39) (by exact ez39) ?_
                  refine va_iast hx hb hK hP (xD hN _ _ _ _ _ _) hS 9 9 (xw_is (r := 9) (by omega) (xc_fix (r := 9) (by omega))) (xt_is (r := 9) (by omega) rfl) (i := (nI gl)) (vp_in_nI (by omega) (by decide)) dX0_readLine_171 (fun H locs hP _ hS => ?_)
                  rw [nI_clamp (by omega)] at hP
                  have hP : va_P (dC, dI) vwCl (xw A C nb (up2 st38 9 gl z39) sl30 so31) H := by rw [← xset (r := 9) (k := gl) (v := z39) (xc_fix (r := 9) (by omega))]; exact hP
                  obtain ⟨st40, est40⟩ : ∃ y, y = up2 st38 9 gl z39 := ⟨_, rfl⟩
                  have hG : XG [1, 2, 4, 5, 6, 7, 8, 9, 12, 13, 14, 15] st st40 := by rw [est40]; exact hG.up (xz (r := 9) (k := gl) (by unfold xrg; rfl : xrg 9 gl = 0)) (xpn (c := 0) (by unfold xcl; rfl : xcl 9 gl = 0) (by decide))
                  rw [← est40] at hP
                  refine lv_iload hx hb dX0_readLine_172 (lv_at hl 0 rfl) ?_
                  exact W.zret (v := 0) hx hb hr rfl (fun t ht hW => ⟨⟨0, (st40, sl30, so31), rfl, ⟨hG, hL, hO, Or.inr ⟨rfl, fun jj hk => by show st40 6 jj = st 6 jj; rw [est40, up2_ne (r := 9) (k := gl) (a := 6) (j := jj) _ _ (by omega), est38, up2_ne (r := 8) (k := gl) (a := 6) (j := jj) _ _ (by omega), hGst29.2 6 jj (by rw [(by unfold xcl; rfl : xcl 6 jj = 3)]; decide), est27, up2_ne (r := 7) (k := gl) (a := 6) (j := jj) _ _ (by omega), hGst20.2 6 jj (by rw [(by unfold xcl; rfl : xcl 6 jj = 3)]; decide), hf8 jj hk], fun jj hk => by show so31 5 jj = so 5 jj; rw [hOst29.2 5 jj (by decide), hOst20.2 5 jj (by decide), eso9, upO_ne (r := 5) (k := gl) (a := 5) (j := jj) _ _ (by omega), hOst2.2 5 jj (by decide)]⟩⟩, xB.of ht hP⟩, hS.F ht⟩) hS.2.2 dX0_readLine_174
              · have c10 : n5 = 8 := (EV.eqw hEv (i := n5) (j := 8) (by omega) (by omega)).mp c10
                refine lv_iconst (v := 1) hx hb dX0_readLine_138 (by decide) ?_
                exact W.zret (v := 1) hx hb hr rfl (fun t ht hW => ⟨⟨1, (st27, sl21, so22), rfl, ⟨hG, hL, hO, Or.inl ⟨rfl, BK1.of (j := n5) (by show so22 5 gl = _; rw [hOst20.2 5 gl (by decide), eso9, upO_same]) (fun k hk q => EV.inj hEv (by omega) hk q) (fun hh => by obtain ⟨m, hm, em⟩ := hf7.1 hh; exact ⟨m, hm, by show st27 6 gl = _; rw [est27, up2_ne (r := 7) (k := gl) (a := 6) (j := gl) _ _ (by omega), hGst20.2 6 gl (by rw [(by unfold xcl; rfl : xcl 6 gl = 3)]; decide)]; exact em⟩) (fun hh => by obtain ⟨m, hm, em⟩ := hf7.2 hh; exact ⟨m, hm, by show st27 6 gl = _; rw [est27, up2_ne (r := 7) (k := gl) (a := 6) (j := gl) _ _ (by omega), hGst20.2 6 gl (by rw [(by unfold xcl; rfl : xcl 6 gl = 3)]; decide)]; exact em⟩), fun jj hk => by show st27 6 jj = st 6 jj; rw [est27, up2_ne (r := 7) (k := gl) (a := 6) (j := jj) _ _ (by omega), hGst20.2 6 jj (by rw [(by unfold xcl; rfl : xcl 6 jj = 3)]; decide), hf8 jj hk], fun jj hk => by show so22 5 jj = so 5 jj; rw [hOst20.2 5 jj (by decide), eso9, upO_ne (r := 5) (k := gl) (a := 5) (j := jj) _ _ (by omega), hOst2.2 5 jj (by decide)]⟩⟩, xB.of ht hP⟩, hS.F ht⟩) hS.2.2 dX0_readLine_139
            · refine lv_if_ne (tgt := 118) hx hb dX0_readLine_113 (by decide) (fun cc => absurd (by decide) cc) (fun _ => ?_)
              refine lv_iconst (v := 0) hx hb dX0_readLine_116 (by decide) ?_
              exact W.zret (v := 0) hx hb hr rfl (fun t ht hW => ⟨⟨0, (st20, sl21, so22), rfl, ⟨hG, hL, hO, Or.inr ⟨rfl, fun jj hk => by show st20 6 jj = st 6 jj; rw [hGst20.2 6 jj (by rw [(by unfold xcl; rfl : xcl 6 jj = 3)]; decide), hf8 jj hk], fun jj hk => by show so22 5 jj = so 5 jj; rw [hOst20.2 5 jj (by decide), eso9, upO_ne (r := 5) (k := gl) (a := 5) (j := jj) _ _ (by omega), hOst2.2 5 jj (by decide)]⟩⟩, xB.of ht hP⟩, hS.F ht⟩) hS.2.2 dX0_readLine_117
          · have c8 : n5 = 12 := (EV.eqw hEv (i := n5) (j := 12) (by omega) (by omega)).mp c8
            refine lv_aload_n hx hb dX0_readLine_65 rfl (lv_at hl 0 rfl) ?_
            refine va_gets (v := .ref (ad 12)) hx hb (EV.word hEv (i := 12) (by decide)) hS hown (hts _ mm_X0_readLine_7) (fun _ hh => hh) dX0_readLine_66 ?_
            refine lv_acmp_ne (rx := (some (ad n5))) (ry := (some (ad 12))) (tgt := 82) hx hb dX0_readLine_69 (by decide) (fun hh => absurd ((EV.eqw hEv (i := n5) (j := 12) (by omega) (by omega)).mpr (by omega)) hh) (fun _ => ?_)
            refine lv_aload_n hx hb dX0_readLine_72 rfl (lv_at hl 2 rfl) ?_
            refine lv_iconst (v := 1) hx hb dX0_readLine_73 (by decide) ?_
            refine lv_bipush (v := 30) hx hb dX0_readLine_74 (by decide) ?_
            refine va_calli (va_runV (As := [.int 1, .int 30]) (rest := []) ⟨hx, hb, hml, hown, hts⟩ (x_X8_takeNumber l dC dI ad E hEE A C nb _ hN st2 sl3 so9 1 30  hG.1 hO.1) (cwV 2 hts gX0_readLine_X8_takeNumber rfl rfl rfl (by decide +kernel) ⟨Nat.le_of_ble_eq_true rfl, Nat.le_of_ble_eq_true rfl⟩) ⟨fun a U g mk q => ⟨q.1, xPre.blind hEE q.2⟩, va_recv hK hP (ci := 9) (q0 := 1) rfl (xw_is (r := 1) (by omega) (xc_fix (r := 1) (by omega))), fun U hU hW => ⟨rfl, xPre.of hEE hP hK hE hS hU hW⟩⟩ rfl rfl hl.1 rfl (lv_room (Nat.le_of_ble_eq_true rfl)) dX0_readLine_76 ⟨Nat.le_of_ble_eq_true rfl, Nat.le_of_ble_eq_true rfl⟩) hS (fun q _ h => XA.le hS.1 q h) (XA.le hS.1) (fun r41 x t H locs ht hvm hw hB _ _ hS => ?_)
            have hP := xB.at ht hB
            clear hB ht hvm
            obtain ⟨st42, sl43, so44⟩ := x
            obtain ⟨hGst42, hLGst42, hOst42, hw⟩ := hw
            dsimp only at hGst42 hLGst42 hOst42 hw
            have hL : LGq sl sl43 := hL.tr hLGst42
            have hO : OG ad [3, 4] so so44 := hO.tr hOst42 (by decide)
            have hP : va_P (dC, dI) vwCl (xw A C nb st42 sl43 so44) _ := hP
            have hG : XG [1, 2, 4, 5, 6, 7, 8, 9, 12, 13, 14, 15] st st42 := hG.tr hGst42 (by decide)
            rcases hw with rfl | ⟨rfl, hf45⟩
            · refine lv_goto (tgt := 89) hx hb dX0_readLine_79 (by decide) ?_
              refine lv_istore (lv' := [(4, .int 1), (3, .ref (ad n5)), (0, .ref (A 4)), (1, .ref (A 1)), (2, .ref (A (36 + 20 * 0)))]) hx hb dX0_readLine_89 hl (by decide) rfl (fun ls hl => ?_)
              refine lv_aload_n hx hb dX0_readLine_91 rfl (lv_at hl 2 rfl) ?_
              refine va_get (D := (dC, dI)) (ci := 1) (v := .ref (A 6)) (C := RX0) (T := TX0) (N := 7) hx hb hts ii_X0_readLine_X0 hown hK hP 4 (xw_is (r := 4) (by omega) (xc_fix (r := 4) (by omega))) rfl 1 (by decide) (hts _ mm_X0_readLine_8) (fun _ hh => hh) rfl dX0_readLine_92 ?_
              refine lv_aload_n hx hb dX0_readLine_95 rfl (lv_at hl 2 rfl) ?_
              refine va_get (D := (dC, dI)) (ci := 1) (v := .int (st42 4 5)) (C := RX0) (T := TX0) (N := 7) hx hb hts ii_X0_readLine_X0 hown hK hP 4 (xw_is (r := 4) (by omega) (xc_fix (r := 4) (by omega))) rfl 5 (by decide) (hts _ mm_X0_readLine_2) (fun _ hh => hh) rfl dX0_readLine_96 ?_
              refine zz_top (v := (nI gl)) (by show st42 4 5 = _; rw [hGst42.2 4 5 (by rw [(by decide : xcl 4 5 = 6)]; decide), hGst2.2 4 5 (by rw [(by decide : xcl 4 5 = 6)]; decide), hgl]) ?_
              refine lv_aload_n hx hb dX0_readLine_99 rfl (lv_at hl 3 rfl) ?_
              refine va_getN (host := "OffTheLead") (D := (dC, dI)) (ci := 9) (v := .int (st42 1 9)) (C := RX8) (T := TX8) (N := 15) hx hb hts ii_X0_readLine_X8 hown hK hP 1 (xw_is (r := 1) (by omega) (xc_fix (r := 1) (by omega))) rfl 9 (by decide) (va_Nw.use rfl (nf_X0_102 hEv)) (fun _ hh => hh) rfl dX0_readLine_100 ?_
              obtain ⟨z46, ez46⟩ : ∃ y : Int32, st42 1 9 = y := ⟨_, rfl⟩
              refine zz_top (v := z46) (by exact ez46) ?_
              refine va_iast hx hb hK hP (xD hN _ _ _ _ _ _) hS 6 6 (xw_is (r := 6) (by omega) (xc_fix (r := 6) (by omega))) (xt_is (r := 6) (by omega) rfl) (i := (nI gl)) (vp_in_nI (by omega) (by decide)) dX0_readLine_103 (fun H locs hP _ hS => ?_)
              rw [nI_clamp (by omega)] at hP
              have hP : va_P (dC, dI) vwCl (xw A C nb (up2 st42 6 gl z46) sl43 so44) H := by rw [← xset (r := 6) (k := gl) (v := z46) (xc_fix (r := 6) (by omega))]; exact hP
              obtain ⟨st47, est47⟩ : ∃ y, y = up2 st42 6 gl z46 := ⟨_, rfl⟩
              have hG : XG [1, 2, 4, 5, 6, 7, 8, 9, 12, 13, 14, 15] st st47 := by rw [est47]; exact hG.up (xz (r := 6) (k := gl) (by unfold xrg; rfl : xrg 6 gl = 0)) (xpn (c := 3) (by unfold xcl; rfl : xcl 6 gl = 3) (by decide))
              rw [← est47] at hP
              refine lv_iload hx hb dX0_readLine_104 (lv_at hl 0 rfl) ?_
              exact W.zret (v := 1) hx hb hr rfl (fun t ht hW => ⟨⟨1, (st47, sl43, so44), rfl, ⟨hG, hL, hO, Or.inl ⟨rfl, BK1.of (j := n5) (by show so44 5 gl = _; rw [hOst42.2 5 gl (by decide), eso9, upO_same]) (fun k hk q => EV.inj hEv (by omega) hk q) (fun hh => absurd hh (by omega)) (fun hh => absurd hh (by omega)), fun jj hk => by show st47 6 jj = st 6 jj; rw [est47, up2_ne (r := 6) (k := gl) (a := 6) (j := jj) _ _ (by omega), hGst42.2 6 jj (by rw [(by unfold xcl; rfl : xcl 6 jj = 3)]; decide), hf8 jj hk], fun jj hk => by show so44 5 jj = so 5 jj; rw [hOst42.2 5 jj (by decide), eso9, upO_ne (r := 5) (k := gl) (a := 5) (j := jj) _ _ (by omega), hOst2.2 5 jj (by decide)]⟩⟩, xB.of ht hP⟩, hS.F ht⟩) hS.2.2 dX0_readLine_106
            · refine lv_goto (tgt := 89) hx hb dX0_readLine_79 (by decide) ?_
              refine lv_istore (lv' := [(4, .int 0), (3, .ref (ad n5)), (0, .ref (A 4)), (1, .ref (A 1)), (2, .ref (A (36 + 20 * 0)))]) hx hb dX0_readLine_89 hl (by decide) rfl (fun ls hl => ?_)
              refine lv_aload_n hx hb dX0_readLine_91 rfl (lv_at hl 2 rfl) ?_
              refine va_get (D := (dC, dI)) (ci := 1) (v := .ref (A 6)) (C := RX0) (T := TX0) (N := 7) hx hb hts ii_X0_readLine_X0 hown hK hP 4 (xw_is (r := 4) (by omega) (xc_fix (r := 4) (by omega))) rfl 1 (by decide) (hts _ mm_X0_readLine_8) (fun _ hh => hh) rfl dX0_readLine_92 ?_
              refine lv_aload_n hx hb dX0_readLine_95 rfl (lv_at hl 2 rfl) ?_
              refine va_get (D := (dC, dI)) (ci := 1) (v := .int (st42 4 5)) (C := RX0) (T := TX0) (N := 7) hx hb hts ii_X0_readLine_X0 hown hK hP 4 (xw_is (r := 4) (by omega) (xc_fix (r := 4) (by omega))) rfl 5 (by decide) (hts _ mm_X0_readLine_2) (fun _ hh => hh) rfl dX0_readLine_96 ?_
              refine zz_top (v := (nI gl)) (by show st42 4 5 = _; rw [hGst42.2 4 5 (by rw [(by decide : xcl 4 5 = 6)]; decide), hGst2.2 4 5 (by rw [(by decide : xcl 4 5 = 6)]; decide), hgl]) ?_
              refine lv_aload_n hx hb dX0_readLine_99 rfl (lv_at hl 3 rfl) ?_
              refine va_getN (host := "OffTheLead") (D := (dC, dI)) (ci := 9) (v := .int (st42 1 9)) (C := RX8) (T := TX8) (N := 15) hx hb hts ii_X0_readLine_X8 hown hK hP 1 (xw_is (r := 1) (by omega) (xc_fix (r := 1) (by omega))) rfl 9 (by decide) (va_Nw.use rfl (nf_X0_102 hEv)) (fun _ hh => hh) rfl dX0_readLine_100 ?_
              obtain ⟨z48, ez48⟩ : ∃ y : Int32, st42 1 9 = y := ⟨_, rfl⟩
              refine zz_top (v := z48) (by exact ez48) ?_
              refine va_iast hx hb hK hP (xD hN _ _ _ _ _ _) hS 6 6 (xw_is (r := 6) (by omega) (xc_fix (r := 6) (by omega))) (xt_is (r := 6) (by omega) rfl) (i := (nI gl)) (vp_in_nI (by omega) (by decide)) dX0_readLine_103 (fun H locs hP _ hS => ?_)
              rw [nI_clamp (by omega)] at hP
              have hP : va_P (dC, dI) vwCl (xw A C nb (up2 st42 6 gl z48) sl43 so44) H := by rw [← xset (r := 6) (k := gl) (v := z48) (xc_fix (r := 6) (by omega))]; exact hP
              obtain ⟨st49, est49⟩ : ∃ y, y = up2 st42 6 gl z48 := ⟨_, rfl⟩
              have hG : XG [1, 2, 4, 5, 6, 7, 8, 9, 12, 13, 14, 15] st st49 := by rw [est49]; exact hG.up (xz (r := 6) (k := gl) (by unfold xrg; rfl : xrg 6 gl = 0)) (xpn (c := 3) (by unfold xcl; rfl : xcl 6 gl = 3) (by decide))
              rw [← est49] at hP
              refine lv_iload hx hb dX0_readLine_104 (lv_at hl 0 rfl) ?_
              exact W.zret (v := 0) hx hb hr rfl (fun t ht hW => ⟨⟨0, (st49, sl43, so44), rfl, ⟨hG, hL, hO, Or.inr ⟨rfl, fun jj hk => by show st49 6 jj = st 6 jj; rw [est49, up2_ne (r := 6) (k := gl) (a := 6) (j := jj) _ _ (by omega), hGst42.2 6 jj (by rw [(by unfold xcl; rfl : xcl 6 jj = 3)]; decide), hf8 jj hk], fun jj hk => by show so44 5 jj = so 5 jj; rw [hOst42.2 5 jj (by decide), eso9, upO_ne (r := 5) (k := gl) (a := 5) (j := jj) _ _ (by omega), hOst2.2 5 jj (by decide)]⟩⟩, xB.of ht hP⟩, hS.F ht⟩) hS.2.2 dX0_readLine_106
      · have c5 : n5 = 10 := (EV.eqw hEv (i := n5) (j := 10) (by omega) (by omega)).mp c5
        refine lv_aload_n hx hb dX0_readLine_38 rfl (lv_at hl 0 rfl) ?_
        refine va_gets (v := .ref (ad 25)) hx hb (EV.word hEv (i := 25) (by decide)) hS hown (hts _ mm_X0_readLine_3) (fun _ hh => hh) dX0_readLine_39 ?_
        refine lv_acmp_eq (rx := (some (ad n5))) (ry := (some (ad 25))) (tgt := 49) hx hb dX0_readLine_42 (by decide) (fun hh => absurd ((EV.eqw hEv (i := n5) (j := 25) (by omega) (by omega)).mp hh) (by omega)) (fun _ => ?_)
        refine lv_iconst (v := 1) hx hb dX0_readLine_45 (by decide) ?_
        refine lv_goto (tgt := 50) hx hb dX0_readLine_46 (by decide) ?_
        exact W.zret (v := 1) hx hb hr rfl (fun t ht hW => ⟨⟨1, (st2, sl3, so9), rfl, ⟨hG, hL, hO, Or.inl ⟨rfl, BK1.of (j := n5) (by show so9 5 gl = _; rw [eso9, upO_same]) (fun k hk q => EV.inj hEv (by omega) hk q) (fun hh => by obtain ⟨m, hm, em⟩ := hf7.1 hh; exact ⟨m, hm, by show st2 6 gl = _; exact em⟩) (fun hh => by obtain ⟨m, hm, em⟩ := hf7.2 hh; exact ⟨m, hm, by show st2 6 gl = _; exact em⟩), fun jj hk => by show st2 6 jj = st 6 jj; rw [hf8 jj hk], fun jj hk => by show so9 5 jj = so 5 jj; rw [eso9, upO_ne (r := 5) (k := gl) (a := 5) (j := jj) _ _ (by omega), hOst2.2 5 jj (by decide)]⟩⟩, xB.of ht hP⟩, hS.F ht⟩) hS.2.2 dX0_readLine_50
