set_option maxHeartbeats 4000000 in
set_option maxRecDepth 100000 in
theorem x_readOne_8 (l : Launch) (dC : Nat → ClassId) (dI : Nat → Nat → Nat) (ad : Nat → Nat) (E : EP) (hEE : EC ad E) (A : Nat → Nat) (C : Nat → ClassId) (nb sz : Nat) (hN : XN A) (st : Nat → Nat → Int32) (sl : Nat → Nat → Int64) (so : Nat → XR) (hI : XI st) (hOI : OI ad so) : Met l yX7_readOne wsX7_readOne ({ frames := 8, cells := 0, slots := 0, locals := 177 }) (va_Pc [.ref (A (20 + 4 * 1)), .ref (A 1), .ref (A (36 + 20 * 0)), .int 8] (xPre E dC dI A C nb sz st sl so)) (va_Qi (fun (r : Int32) (x : XT) => XG [1, 2, 3, 4, 5, 6, 7, 12, 13, 14, 15] st x.1 ∧ LGq sl x.2.1 ∧ OG ad [2, 4] so x.2.2 ∧ ((r = 1 ∧ (SKs ad st so 1 → SKs ad x.1 x.2.2 1)) ∨ (r = 0 ∧ ¬ x.1 1 13 = 0))) (xB dC dI A C nb) (XA A sz)) 0 0 (XA A sz) := by
  refine Met.ofW (cc := cX7_readOne) (maxL := 7) (ret := (some .boolean)) (by decide) rfl ?_
  intro p e s m args below meth c s₁ B hml hv
  obtain ⟨rfl, hsz, hP, hK, hE⟩ := hv
  have hx := B.exec
  have hb := B.bytes
  have hr := B.returns
  have hts := atoms_spec (ws := wsX7_readOne) B.pre
  have hown : s.vm.findClass RX7 = some m.cls := findClass_of_methodNamed B.named
  subst hsz
  have hEv := hEE.1 _ _ _ hE
  have hS : va_S (XA A s.heap.size) s.heap s.heap [] := va_S.rf
  have hG : XG [1, 2, 3, 4, 5, 6, 7, 12, 13, 14, 15] st st := XG.rf hI
  have hO : OG ad [2, 4] so so := OG.rf hOI
  have hl := lv_entry ([.ref (A (20 + 4 * 1)), .ref (A 1), .ref (A (36 + 20 * 0)), .int 8]) (n := 7) (Nat.le_of_ble_eq_true rfl)
  rw [lg_entry_eq]
  generalize (lg_sl ([.ref (A (20 + 4 * 1)), .ref (A 1), .ref (A (36 + 20 * 0)), .int 8]) ++ List.replicate (7 - (lg_sl ([.ref (A (20 + 4 * 1)), .ref (A 1), .ref (A (36 + 20 * 0)), .int 8])).length) Slot.unset).toArray = ls at hl ⊢
  have hl : lv_has ls 7 [(0, .ref (A (20 + 4 * 1))), (1, .ref (A 1)), (2, .ref (A (36 + 20 * 0))), (3, .int 8)] := hl
  have hL : LGq sl sl := LGq.rf
  have hsk : SKs ad st so 1 → SKs ad st so 1 := fun hh => hh
  refine lv_aload_n hx hb dX7_readOne_0 rfl (lv_at hl 1 rfl) ?_
  refine va_getN (host := "OffTheLead") (D := (dC, dI)) (ci := 9) (v := va_rf (so 1 7)) (C := RX8) (T := TX8) (N := 15) hx hb hts ii_X7_readOne_X8 hown hK hP 1 (xw_is (r := 1) (by omega) (xc_fix (r := 1) (by omega))) rfl 7 (by decide) (va_Nw.use rfl (nf_X7_35 hEv)) (fun _ hh => hh) rfl dX7_readOne_1 ?_
  obtain ⟨j1, hj1, ej1⟩ := hO.1.2
  refine zz_topq (r := some (ad j1)) (by rw [ej1]) ?_
  refine lv_astore (lv' := [(4, .ref (ad j1)), (0, .ref (A (20 + 4 * 1))), (1, .ref (A 1)), (2, .ref (A (36 + 20 * 0))), (3, .int 8)]) hx hb dX7_readOne_4 hl (by decide) rfl (fun ls hl => ?_)
  refine lv_aload_n hx hb dX7_readOne_6 rfl (lv_at hl 2 rfl) ?_
  refine lv_bipush (v := 40) hx hb dX7_readOne_7 (by decide) ?_
  refine va_calli (va_runV (As := [.int 40]) (rest := []) ⟨hx, hb, hml, hown, hts⟩ (x_X8_looksAtMark l dC dI ad E hEE A C nb _ hN st sl so 40  hG.1) (cwV 1 hts gX7_readOne_X8_looksAtMark rfl rfl rfl (by decide +kernel) ⟨Nat.le_of_ble_eq_true rfl, Nat.le_of_ble_eq_true rfl⟩) ⟨fun a U g mk q => ⟨q.1, xPre.blind hEE q.2⟩, va_recv hK hP (ci := 9) (q0 := 1) rfl (xw_is (r := 1) (by omega) (xc_fix (r := 1) (by omega))), fun U hU hW => ⟨rfl, xPre.of hEE hP hK hE hS hU hW⟩⟩ rfl rfl hl.1 rfl (lv_room (Nat.le_of_ble_eq_true rfl)) dX7_readOne_9 ⟨Nat.le_of_ble_eq_true rfl, Nat.le_of_ble_eq_true rfl⟩) hS (fun q _ h => XA.le hS.1 q h) (XA.le hS.1) (fun r2 x t H locs ht hvm hw hB _ _ hS => ?_)
  have hP := xB.at ht hB
  clear hB ht hvm
  obtain ⟨rfl, hw⟩ := hw
  have hP : va_P (dC, dI) vwCl (xw A C nb st sl so) _ := hP
  rcases hw with rfl | rfl
  · refine lv_istore (lv' := [(5, .int 1), (4, .ref (ad j1)), (0, .ref (A (20 + 4 * 1))), (1, .ref (A 1)), (2, .ref (A (36 + 20 * 0))), (3, .int 8)]) hx hb dX7_readOne_12 hl (by decide) rfl (fun ls hl => ?_)
    refine lv_iload hx hb dX7_readOne_14 (lv_at hl 0 rfl) ?_
    refine lv_if_ne (tgt := 33) hx hb dX7_readOne_16 (by decide) (fun _ => ?_) (fun cc => absurd cc (by decide))
    refine lv_aload_n hx hb dX7_readOne_33 rfl (lv_at hl 2 rfl) ?_
    refine va_get (D := (dC, dI)) (ci := 8) (v := .int (st (20 + 4 * 1) 4)) (C := RX7) (T := TX7) (N := 5) hx hb hts ii_X7_readOne_X7 hown hK hP (20 + 4 * 1) (xw_is (r := (20 + 4 * 1)) (by omega) (xc_sn (q := 1) (o := 0) (by omega) (by omega))) rfl 4 (by decide) (hts _ mm_X7_readOne_1) (fun _ hh => hh) rfl dX7_readOne_34 ?_
    obtain ⟨z3, ez3⟩ : ∃ y : Int32, st (20 + 4 * 1) 4 = y := ⟨_, rfl⟩
    refine zz_top (v := z3) (by exact ez3) ?_
    refine lv_bipush (v := 20) hx hb dX7_readOne_37 (by decide) ?_
    refine lv_icmp_ge (tgt := 48) hx hb dX7_readOne_39 (by decide) (fun c2 => ?_) (fun c2 => ?_)
    · refine lv_aload_n hx hb dX7_readOne_48 rfl (lv_at hl 3 rfl) ?_
      refine lv_iconst (v := 4) hx hb dX7_readOne_49 (by decide) ?_
      refine va_calli (va_runV (As := [.int 4]) (rest := []) ⟨hx, hb, hml, hown, hts⟩ (x_X8_refuse l dC dI ad E hEE A C nb _ hN st sl so 4  hG.1) (cwV 1 hts gX7_readOne_X8_refuse rfl rfl rfl (by decide +kernel) ⟨Nat.le_of_ble_eq_true rfl, Nat.le_of_ble_eq_true rfl⟩) ⟨fun a U g mk q => ⟨q.1, xPre.blind hEE q.2⟩, va_recv hK hP (ci := 9) (q0 := 1) rfl (xw_is (r := 1) (by omega) (xc_fix (r := 1) (by omega))), fun U hU hW => ⟨rfl, xPre.of hEE hP hK hE hS hU hW⟩⟩ rfl rfl hl.1 rfl (lv_room (Nat.le_of_ble_eq_true rfl)) dX7_readOne_50 ⟨Nat.le_of_ble_eq_true rfl, Nat.le_of_ble_eq_true rfl⟩) hS (fun q _ h => XA.le hS.1 q h) (XA.le hS.1) (fun r4 x t H locs ht hvm hw hB _ _ hS => ?_)
      have hP := xB.at ht hB
      clear hB ht hvm
      obtain ⟨st5, sl6, so7⟩ := x
      obtain ⟨hGst5, hLGst5, hOst5, hw⟩ := hw
      dsimp only at hGst5 hLGst5 hOst5 hw
      have hL : LGq sl sl6 := hL.tr hLGst5
      replace hOst5 := hOst5.symm
      subst hOst5
      have hP : va_P (dC, dI) vwCl (xw A C nb st5 sl6 so) _ := hP
      have hG : XG [1, 2, 3, 4, 5, 6, 7, 12, 13, 14, 15] st st5 := hG.tr hGst5 (by decide)
      obtain ⟨rfl, hf8⟩ := hw
      have hsk : SKs ad st so 1 → SKs ad st5 so 1 := fun hh => SKs.mgs (hsk hh) (by omega) hGst5 (by decide) (by decide)
      exact W.zret (v := 0) hx hb hr rfl (fun t ht hW => ⟨⟨0, (st5, sl6, so), rfl, ⟨hG, hL, hO, Or.inr (⟨rfl, by show ¬ st5 1 13 = 0; rw [hf8]; decide⟩)⟩, xB.of ht hP⟩, hS.F ht⟩) hS.2.2 dX7_readOne_53
    · refine lv_iload_n hx hb dX7_readOne_42 rfl (lv_at hl 5 rfl) ?_
      refine lv_bipush (v := 8) hx hb dX7_readOne_43 (by decide) ?_
      refine lv_icmp_le (tgt := 54) hx hb dX7_readOne_45 (by decide) (fun _ => ?_) (fun cc => absurd (by decide) cc)
      refine lv_aload_n hx hb dX7_readOne_54 rfl (lv_at hl 2 rfl) ?_
      refine lv_dup hx hb dX7_readOne_55 rfl ?_
      refine va_get (D := (dC, dI)) (ci := 8) (v := .int (st (20 + 4 * 1) 4)) (C := RX7) (T := TX7) (N := 5) hx hb hts ii_X7_readOne_X7 hown hK hP (20 + 4 * 1) (xw_is (r := (20 + 4 * 1)) (by omega) (xc_sn (q := 1) (o := 0) (by omega) (by omega))) rfl 4 (by decide) (hts _ mm_X7_readOne_1) (fun _ hh => hh) rfl dX7_readOne_56 ?_
      refine zz_top (v := z3) (by show st (20 + 4 * 1) 4 = _; rw [ez3]) ?_
      refine lv_iconst (v := 1) hx hb dX7_readOne_59 (by decide) ?_
      refine lv_iadd hx hb dX7_readOne_60 ?_
      refine lv_topi (fun z9 ez9 => ?_)
      clear ez9
      refine va_put (D := (dC, dI)) (ci := 8) (v := .int z9) (ty := .int) (C := RX7) (T := TX7) (N := 5) hx hb hts ii_X7_readOne_X7 tyX7 tyX7_ok nmX7 hown hK hP (xD hN _ _ _ _ _ _) hS (20 + 4 * 1) (xw_is (r := (20 + 4 * 1)) (by omega) (xc_sn (q := 1) (o := 0) (by omega) (by omega))) rfl 4 (by decide) (hts _ mm_X7_readOne_1) (fun _ hh => hh) rfl (by decide +kernel) rfl rfl (Nat.le_of_ble_eq_true rfl) dX7_readOne_61 (fun H locs hP _ hS => ?_)
      have hP : va_P (dC, dI) vwCl (xw A C nb (up2 st (20 + 4 * 1) 4 z9) sl so) H := by rw [← xset (r := (20 + 4 * 1)) (k := 4) (v := z9) (xc_sn (q := 1) (o := 0) (by omega) (by omega))]; exact hP
      obtain ⟨st10, est10⟩ : ∃ y, y = up2 st (20 + 4 * 1) 4 z9 := ⟨_, rfl⟩
      have hG : XG [1, 2, 3, 4, 5, 6, 7, 12, 13, 14, 15] st st10 := by rw [est10]; exact hG.up (xz (r := (20 + 4 * 1)) (k := 4) ((xrg_sn (q := 1) (o := 0) (by omega) (by omega)).trans (by first | rfl | decide))) (xpn (c := 0) ((xcl_sn (q := 1) (o := 0) (k := 4) (by omega) (by omega)).trans (by first | rfl | decide)) (by decide))
      rw [← est10] at hP
      have hsk : SKs ad st so 1 → SKs ad st10 so 1 := fun hh => SKs.eq (hsk hh) (by rw [est10, up2_ne (r := (20 + 4 * 1)) (k := 4) (a := 20 + 4 * 1) (j := 3) _ _ (by omega)]) (fun i9 => by rw [est10, up2_ne (r := (20 + 4 * 1)) (k := 4) (a := 20 + 4 * 1 + 3) (j := i9) _ _ (by omega)]) (fun i9 => rfl)
      refine lv_aload_n hx hb dX7_readOne_64 rfl (lv_at hl 3 rfl) ?_
      refine va_callv (va_runV (As := []) (rest := []) ⟨hx, hb, hml, hown, hts⟩ (x_X8_step l dC dI ad E hEE A C nb _ hN st10 sl so  hG.1 hO.1) (cwV 0 hts gX7_readOne_X8_step rfl rfl rfl (by decide +kernel) ⟨Nat.le_of_ble_eq_true rfl, Nat.le_of_ble_eq_true rfl⟩) ⟨fun a U g mk q => ⟨q.1, xPre.blind hEE q.2⟩, va_recv hK hP (ci := 9) (q0 := 1) rfl (xw_is (r := 1) (by omega) (xc_fix (r := 1) (by omega))), fun U hU hW => ⟨rfl, xPre.of hEE hP hK hE hS hU hW⟩⟩ rfl rfl hl.1 rfl (lv_room (Nat.le_of_ble_eq_true rfl)) dX7_readOne_65 ⟨Nat.le_of_ble_eq_true rfl, Nat.le_of_ble_eq_true rfl⟩) hS (fun q _ h => XA.le hS.1 q h) (XA.le hS.1) (fun x t H locs ht hvm hw hB _ _ hS => ?_)
      have hP := xB.at ht hB
      clear hB ht hvm
      obtain ⟨st12, sl13, so14⟩ := x
      obtain ⟨hGst12, hLGst12, hOst12, hw⟩ := hw
      dsimp only at hGst12 hLGst12 hOst12 hw
      have hL : LGq sl sl13 := hL.tr hLGst12
      have hO : OG ad [2, 4] so so14 := hO.tr hOst12 (by decide)
      have hP : va_P (dC, dI) vwCl (xw A C nb st12 sl13 so14) _ := hP
      have hG : XG [1, 2, 3, 4, 5, 6, 7, 12, 13, 14, 15] st st12 := hG.tr hGst12 (by decide)
      clear hw
      have hsk : SKs ad st so 1 → SKs ad st12 so14 1 := fun hh => SKs.mg (hsk hh) (by omega) hGst12 hOst12 (by decide) (by decide) (by decide)
      refine lv_iload hx hb dX7_readOne_68 (lv_at hl 0 rfl) ?_
      refine lv_if_eq (tgt := 100) hx hb dX7_readOne_70 (by decide) (fun cc => absurd cc (by decide)) (fun _ => ?_)
      refine lv_aload_n hx hb dX7_readOne_73 rfl (lv_at hl 2 rfl) ?_
      refine lv_aload_n hx hb dX7_readOne_74 rfl (lv_at hl 3 rfl) ?_
      refine lv_aload_n hx hb dX7_readOne_75 rfl (lv_at hl 4 rfl) ?_
      refine lv_iload_n hx hb dX7_readOne_76 rfl (lv_at hl 5 rfl) ?_
      refine lv_iconst (v := 1) hx hb dX7_readOne_77 (by decide) ?_
      refine lv_iadd hx hb dX7_readOne_78 ?_
      refine zz_top (v := 9) (by decide) ?_
      refine va_calli (va_runV (As := [.ref (A 1), .ref (A (36 + 20 * 0)), .int 9]) (rest := []) ⟨hx, hb, hml, hown, hts⟩ (x_readCond_9 l dC dI ad E hEE A C nb _ hN st12 sl13 so14  hG.1 hO.1) (cwV 3 hts gX7_readOne_X7_readCond rfl rfl rfl (by decide +kernel) ⟨Nat.le_of_ble_eq_true rfl, Nat.le_of_ble_eq_true rfl⟩) ⟨fun a U g mk q => ⟨q.1, xPre.blind hEE q.2⟩, va_recv hK hP (ci := 8) (q0 := (20 + 4 * 1)) rfl (xw_is (r := (20 + 4 * 1)) (by omega) (xc_sn (q := 1) (o := 0) (by omega) (by omega))), fun U hU hW => ⟨rfl, xPre.of hEE hP hK hE hS hU hW⟩⟩ rfl rfl hl.1 rfl (lv_room (Nat.le_of_ble_eq_true rfl)) dX7_readOne_79 ⟨Nat.le_of_ble_eq_true rfl, Nat.le_of_ble_eq_true rfl⟩) hS (fun q _ h => XA.le hS.1 q h) (XA.le hS.1) (fun r15 x t H locs ht hvm hw hB _ _ hS => ?_)
      have hP := xB.at ht hB
      clear hB ht hvm
      obtain ⟨st16, sl17, so18⟩ := x
      obtain ⟨hGst16, hLGst16, hOst16, hw⟩ := hw
      dsimp only at hGst16 hLGst16 hOst16 hw
      have hL : LGq sl sl17 := hL.tr hLGst16
      have hO : OG ad [2, 4] so so18 := hO.tr hOst16 (by decide)
      have hP : va_P (dC, dI) vwCl (xw A C nb st16 sl17 so18) _ := hP
      have hG : XG [1, 2, 3, 4, 5, 6, 7, 12, 13, 14, 15] st st16 := hG.tr hGst16 (by decide)
      rcases hw with ⟨rfl, hf19⟩ | ⟨rfl, hf20⟩
      · have hsk : SKs ad st so 1 → SKs ad st16 so18 1 := fun hh => hf19 (hsk hh)
        refine lv_if_eq (tgt := 98) hx hb dX7_readOne_82 (by decide) (fun cc => absurd cc (by decide)) (fun _ => ?_)
        refine lv_aload_n hx hb dX7_readOne_85 rfl (lv_at hl 3 rfl) ?_
        refine lv_bipush (v := 41) hx hb dX7_readOne_86 (by decide) ?_
        refine va_calli (va_runV (As := [.int 41]) (rest := []) ⟨hx, hb, hml, hown, hts⟩ (x_X8_takeMark l dC dI ad E hEE A C nb _ hN st16 sl17 so18 41  hG.1 hO.1) (cwV 1 hts gX7_readOne_X8_takeMark rfl rfl rfl (by decide +kernel) ⟨Nat.le_of_ble_eq_true rfl, Nat.le_of_ble_eq_true rfl⟩) ⟨fun a U g mk q => ⟨q.1, xPre.blind hEE q.2⟩, va_recv hK hP (ci := 9) (q0 := 1) rfl (xw_is (r := 1) (by omega) (xc_fix (r := 1) (by omega))), fun U hU hW => ⟨rfl, xPre.of hEE hP hK hE hS hU hW⟩⟩ rfl rfl hl.1 rfl (lv_room (Nat.le_of_ble_eq_true rfl)) dX7_readOne_88 ⟨Nat.le_of_ble_eq_true rfl, Nat.le_of_ble_eq_true rfl⟩) hS (fun q _ h => XA.le hS.1 q h) (XA.le hS.1) (fun r21 x t H locs ht hvm hw hB _ _ hS => ?_)
        have hP := xB.at ht hB
        clear hB ht hvm
        obtain ⟨st22, sl23, so24⟩ := x
        obtain ⟨hGst22, hLGst22, hOst22, hw⟩ := hw
        dsimp only at hGst22 hLGst22 hOst22 hw
        have hL : LGq sl sl23 := hL.tr hLGst22
        have hO : OG ad [2, 4] so so24 := hO.tr hOst22 (by decide)
        have hP : va_P (dC, dI) vwCl (xw A C nb st22 sl23 so24) _ := hP
        have hG : XG [1, 2, 3, 4, 5, 6, 7, 12, 13, 14, 15] st st22 := hG.tr hGst22 (by decide)
        rcases hw with rfl | ⟨rfl, hf25⟩
        · have hsk : SKs ad st so 1 → SKs ad st22 so24 1 := fun hh => SKs.mg (hsk hh) (by omega) hGst22 hOst22 (by decide) (by decide) (by decide)
          refine lv_if_eq (tgt := 98) hx hb dX7_readOne_91 (by decide) (fun cc => absurd cc (by decide)) (fun _ => ?_)
          refine lv_iconst (v := 1) hx hb dX7_readOne_94 (by decide) ?_
          refine lv_goto (tgt := 99) hx hb dX7_readOne_95 (by decide) ?_
          exact W.zret (v := 1) hx hb hr rfl (fun t ht hW => ⟨⟨1, (st22, sl23, so24), rfl, ⟨hG, hL, hO, Or.inl ⟨rfl, hsk⟩⟩, xB.of ht hP⟩, hS.F ht⟩) hS.2.2 dX7_readOne_99
        · have hsk : SKs ad st so 1 → SKs ad st22 so24 1 := fun hh => SKs.mg (hsk hh) (by omega) hGst22 hOst22 (by decide) (by decide) (by decide)
          refine lv_if_eq (tgt := 98) hx hb dX7_readOne_91 (by decide) (fun _ => ?_) (fun cc => absurd (by decide) cc)
          refine lv_iconst (v := 0) hx hb dX7_readOne_98 (by decide) ?_
          exact W.zret (v := 0) hx hb hr rfl (fun t ht hW => ⟨⟨0, (st22, sl23, so24), rfl, ⟨hG, hL, hO, Or.inr (⟨rfl, by show ¬ st22 1 13 = 0; exact hf25⟩)⟩, xB.of ht hP⟩, hS.F ht⟩) hS.2.2 dX7_readOne_99
      · refine lv_if_eq (tgt := 98) hx hb dX7_readOne_82 (by decide) (fun _ => ?_) (fun cc => absurd (by decide) cc)
        refine lv_iconst (v := 0) hx hb dX7_readOne_98 (by decide) ?_
        exact W.zret (v := 0) hx hb hr rfl (fun t ht hW => ⟨⟨0, (st16, sl17, so18), rfl, ⟨hG, hL, hO, Or.inr (⟨rfl, by show ¬ st16 1 13 = 0; exact hf20⟩)⟩, xB.of ht hP⟩, hS.F ht⟩) hS.2.2 dX7_readOne_99
  · refine lv_istore (lv' := [(5, .int 0), (4, .ref (ad j1)), (0, .ref (A (20 + 4 * 1))), (1, .ref (A 1)), (2, .ref (A (36 + 20 * 0))), (3, .int 8)]) hx hb dX7_readOne_12 hl (by decide) rfl (fun ls hl => ?_)
    refine lv_iload hx hb dX7_readOne_14 (lv_at hl 0 rfl) ?_
    refine lv_if_ne (tgt := 33) hx hb dX7_readOne_16 (by decide) (fun cc => absurd (by decide) cc) (fun _ => ?_)
    refine lv_aload hx hb dX7_readOne_19 (lv_at hl 1 rfl) ?_
    refine va_calli (va_runS (As := [.ref (ad j1)]) (rest := []) ⟨hx, hb, hml, hown, hts⟩ (x_X7_beginsOne l dC dI ad E hEE A C nb _ hN st sl so j1 (by omega) hG.1) (va_cwS 1 hts gX7_readOne_X7_beginsOne rfl rfl rfl (by decide +kernel) ⟨Nat.le_of_ble_eq_true rfl, Nat.le_of_ble_eq_true rfl⟩) ⟨fun a U g mk q => ⟨q.1, xPre.blind hEE q.2⟩, fun U hU hW => ⟨rfl, xPre.of hEE hP hK hE hS hU hW⟩⟩ rfl rfl hl.1 rfl (lv_room (Nat.le_of_ble_eq_true rfl)) dX7_readOne_21 ⟨Nat.le_of_ble_eq_true rfl, Nat.le_of_ble_eq_true rfl⟩) hS (fun q _ h => XA.le hS.1 q h) (XA.le hS.1) (fun r26 x t H locs ht hvm hw hB _ _ hS => ?_)
    have hP := xB.at ht hB
    clear hB ht hvm
    obtain ⟨rfl, hw⟩ := hw
    have hP : va_P (dC, dI) vwCl (xw A C nb st sl so) _ := hP
    rcases hw with rfl | rfl
    · refine lv_if_ne (tgt := 33) hx hb dX7_readOne_24 (by decide) (fun _ => ?_) (fun cc => absurd cc (by decide))
      refine lv_aload_n hx hb dX7_readOne_33 rfl (lv_at hl 2 rfl) ?_
      refine va_get (D := (dC, dI)) (ci := 8) (v := .int (st (20 + 4 * 1) 4)) (C := RX7) (T := TX7) (N := 5) hx hb hts ii_X7_readOne_X7 hown hK hP (20 + 4 * 1) (xw_is (r := (20 + 4 * 1)) (by omega) (xc_sn (q := 1) (o := 0) (by omega) (by omega))) rfl 4 (by decide) (hts _ mm_X7_readOne_1) (fun _ hh => hh) rfl dX7_readOne_34 ?_
      obtain ⟨z27, ez27⟩ : ∃ y : Int32, st (20 + 4 * 1) 4 = y := ⟨_, rfl⟩
      refine zz_top (v := z27) (by exact ez27) ?_
      refine lv_bipush (v := 20) hx hb dX7_readOne_37 (by decide) ?_
      refine lv_icmp_ge (tgt := 48) hx hb dX7_readOne_39 (by decide) (fun c11 => ?_) (fun c11 => ?_)
      · refine lv_aload_n hx hb dX7_readOne_48 rfl (lv_at hl 3 rfl) ?_
        refine lv_iconst (v := 4) hx hb dX7_readOne_49 (by decide) ?_
        refine va_calli (va_runV (As := [.int 4]) (rest := []) ⟨hx, hb, hml, hown, hts⟩ (x_X8_refuse l dC dI ad E hEE A C nb _ hN st sl so 4  hG.1) (cwV 1 hts gX7_readOne_X8_refuse rfl rfl rfl (by decide +kernel) ⟨Nat.le_of_ble_eq_true rfl, Nat.le_of_ble_eq_true rfl⟩) ⟨fun a U g mk q => ⟨q.1, xPre.blind hEE q.2⟩, va_recv hK hP (ci := 9) (q0 := 1) rfl (xw_is (r := 1) (by omega) (xc_fix (r := 1) (by omega))), fun U hU hW => ⟨rfl, xPre.of hEE hP hK hE hS hU hW⟩⟩ rfl rfl hl.1 rfl (lv_room (Nat.le_of_ble_eq_true rfl)) dX7_readOne_50 ⟨Nat.le_of_ble_eq_true rfl, Nat.le_of_ble_eq_true rfl⟩) hS (fun q _ h => XA.le hS.1 q h) (XA.le hS.1) (fun r28 x t H locs ht hvm hw hB _ _ hS => ?_)
        have hP := xB.at ht hB
        clear hB ht hvm
        obtain ⟨st29, sl30, so31⟩ := x
        obtain ⟨hGst29, hLGst29, hOst29, hw⟩ := hw
        dsimp only at hGst29 hLGst29 hOst29 hw
        have hL : LGq sl sl30 := hL.tr hLGst29
        replace hOst29 := hOst29.symm
        subst hOst29
        have hP : va_P (dC, dI) vwCl (xw A C nb st29 sl30 so) _ := hP
        have hG : XG [1, 2, 3, 4, 5, 6, 7, 12, 13, 14, 15] st st29 := hG.tr hGst29 (by decide)
        obtain ⟨rfl, hf32⟩ := hw
        have hsk : SKs ad st so 1 → SKs ad st29 so 1 := fun hh => SKs.mgs (hsk hh) (by omega) hGst29 (by decide) (by decide)
        exact W.zret (v := 0) hx hb hr rfl (fun t ht hW => ⟨⟨0, (st29, sl30, so), rfl, ⟨hG, hL, hO, Or.inr (⟨rfl, by show ¬ st29 1 13 = 0; rw [hf32]; decide⟩)⟩, xB.of ht hP⟩, hS.F ht⟩) hS.2.2 dX7_readOne_53
      · refine lv_iload_n hx hb dX7_readOne_42 rfl (lv_at hl 5 rfl) ?_
        refine lv_bipush (v := 8) hx hb dX7_readOne_43 (by decide) ?_
        refine lv_icmp_le (tgt := 54) hx hb dX7_readOne_45 (by decide) (fun _ => ?_) (fun cc => absurd (by decide) cc)
        refine lv_aload_n hx hb dX7_readOne_54 rfl (lv_at hl 2 rfl) ?_
        refine lv_dup hx hb dX7_readOne_55 rfl ?_
        refine va_get (D := (dC, dI)) (ci := 8) (v := .int (st (20 + 4 * 1) 4)) (C := RX7) (T := TX7) (N := 5) hx hb hts ii_X7_readOne_X7 hown hK hP (20 + 4 * 1) (xw_is (r := (20 + 4 * 1)) (by omega) (xc_sn (q := 1) (o := 0) (by omega) (by omega))) rfl 4 (by decide) (hts _ mm_X7_readOne_1) (fun _ hh => hh) rfl dX7_readOne_56 ?_
        refine zz_top (v := z27) (by show st (20 + 4 * 1) 4 = _; rw [ez27]) ?_
        refine lv_iconst (v := 1) hx hb dX7_readOne_59 (by decide) ?_
        refine lv_iadd hx hb dX7_readOne_60 ?_
        refine lv_topi (fun z33 ez33 => ?_)
        clear ez33
        refine va_put (D := (dC, dI)) (ci := 8) (v := .int z33) (ty := .int) (C := RX7) (T := TX7) (N := 5) hx hb hts ii_X7_readOne_X7 tyX7 tyX7_ok nmX7 hown hK hP (xD hN _ _ _ _ _ _) hS (20 + 4 * 1) (xw_is (r := (20 + 4 * 1)) (by omega) (xc_sn (q := 1) (o := 0) (by omega) (by omega))) rfl 4 (by decide) (hts _ mm_X7_readOne_1) (fun _ hh => hh) rfl (by decide +kernel) rfl rfl (Nat.le_of_ble_eq_true rfl) dX7_readOne_61 (fun H locs hP _ hS => ?_)
        have hP : va_P (dC, dI) vwCl (xw A C nb (up2 st (20 + 4 * 1) 4 z33) sl so) H := by rw [← xset (r := (20 + 4 * 1)) (k := 4) (v := z33) (xc_sn (q := 1) (o := 0) (by omega) (by omega))]; exact hP
        obtain ⟨st34, est34⟩ : ∃ y, y = up2 st (20 + 4 * 1) 4 z33 := ⟨_, rfl⟩
        have hG : XG [1, 2, 3, 4, 5, 6, 7, 12, 13, 14, 15] st st34 := by rw [est34]; exact hG.up (xz (r := (20 + 4 * 1)) (k := 4) ((xrg_sn (q := 1) (o := 0) (by omega) (by omega)).trans (by first | rfl | decide))) (xpn (c := 0) ((xcl_sn (q := 1) (o := 0) (k := 4) (by omega) (by omega)).trans (by first | rfl | decide)) (by decide))
        rw [← est34] at hP
        have hsk : SKs ad st so 1 → SKs ad st34 so 1 := fun hh => SKs.eq (hsk hh) (by rw [est34, up2_ne (r := (20 + 4 * 1)) (k := 4) (a := 20 + 4 * 1) (j := 3) _ _ (by omega)]) (fun i9 => by rw [est34, up2_ne (r := (20 + 4 * 1)) (k := 4) (a := 20 + 4 * 1 + 3) (j := i9) _ _ (by omega)]) (fun i9 => rfl)
        refine lv_aload_n hx hb dX7_readOne_64 rfl (lv_at hl 3 rfl) ?_
        refine va_callv (va_runV (As := []) (rest := []) ⟨hx, hb, hml, hown, hts⟩ (x_X8_step l dC dI ad E hEE A C nb _ hN st34 sl so  hG.1 hO.1) (cwV 0 hts gX7_readOne_X8_step rfl rfl rfl (by decide +kernel) ⟨Nat.le_of_ble_eq_true rfl, Nat.le_of_ble_eq_true rfl⟩) ⟨fun a U g mk q => ⟨q.1, xPre.blind hEE q.2⟩, va_recv hK hP (ci := 9) (q0 := 1) rfl (xw_is (r := 1) (by omega) (xc_fix (r := 1) (by omega))), fun U hU hW => ⟨rfl, xPre.of hEE hP hK hE hS hU hW⟩⟩ rfl rfl hl.1 rfl (lv_room (Nat.le_of_ble_eq_true rfl)) dX7_readOne_65 ⟨Nat.le_of_ble_eq_true rfl, Nat.le_of_ble_eq_true rfl⟩) hS (fun q _ h => XA.le hS.1 q h) (XA.le hS.1) (fun x t H locs ht hvm hw hB _ _ hS => ?_)
        have hP := xB.at ht hB
        clear hB ht hvm
        obtain ⟨st36, sl37, so38⟩ := x
        obtain ⟨hGst36, hLGst36, hOst36, hw⟩ := hw
        dsimp only at hGst36 hLGst36 hOst36 hw
        have hL : LGq sl sl37 := hL.tr hLGst36
        have hO : OG ad [2, 4] so so38 := hO.tr hOst36 (by decide)
        have hP : va_P (dC, dI) vwCl (xw A C nb st36 sl37 so38) _ := hP
        have hG : XG [1, 2, 3, 4, 5, 6, 7, 12, 13, 14, 15] st st36 := hG.tr hGst36 (by decide)
        clear hw
        have hsk : SKs ad st so 1 → SKs ad st36 so38 1 := fun hh => SKs.mg (hsk hh) (by omega) hGst36 hOst36 (by decide) (by decide) (by decide)
        refine lv_iload hx hb dX7_readOne_68 (lv_at hl 0 rfl) ?_
        refine lv_if_eq (tgt := 100) hx hb dX7_readOne_70 (by decide) (fun _ => ?_) (fun cc => absurd (by decide) cc)
        refine lv_aload hx hb dX7_readOne_100 (lv_at hl 1 rfl) ?_
        refine va_gets (v := .ref (ad 15)) hx hb (EV.word hEv (i := 15) (by decide)) hS hown (hts _ mm_X7_readOne_2) (fun _ hh => hh) dX7_readOne_102 ?_
        refine lv_acmp_ne (rx := (some (ad j1))) (ry := (some (ad 15))) (tgt := 131) hx hb dX7_readOne_105 (by decide) (fun c14 => ?_) (fun c14 => ?_)
        · have c14 : ¬ j1 = 15 := fun hh => c14 ((EV.eqw hEv (i := j1) (j := 15) (by omega) (by omega)).mpr hh)
          refine lv_aload_n hx hb dX7_readOne_131 rfl (lv_at hl 2 rfl) ?_
          refine lv_aload_n hx hb dX7_readOne_132 rfl (lv_at hl 3 rfl) ?_
          refine lv_aload_n hx hb dX7_readOne_133 rfl (lv_at hl 4 rfl) ?_
          refine lv_aload hx hb dX7_readOne_134 (lv_at hl 1 rfl) ?_
          refine va_calli (va_runV (As := [.ref (A 1), .ref (A (36 + 20 * 0)), .ref (ad j1)]) (rest := []) ⟨hx, hb, hml, hown, hts⟩ (x_X7_readPlain l dC dI ad E hEE A C nb _ hN st36 sl37 so38 j1 (by omega) hG.1 hO.1) (cwV 3 hts gX7_readOne_X7_readPlain rfl rfl rfl (by decide +kernel) ⟨Nat.le_of_ble_eq_true rfl, Nat.le_of_ble_eq_true rfl⟩) ⟨fun a U g mk q => ⟨q.1, xPre.blind hEE q.2⟩, va_recv hK hP (ci := 8) (q0 := (20 + 4 * 1)) rfl (xw_is (r := (20 + 4 * 1)) (by omega) (xc_sn (q := 1) (o := 0) (by omega) (by omega))), fun U hU hW => ⟨rfl, xPre.of hEE hP hK hE hS hU hW⟩⟩ rfl rfl hl.1 rfl (lv_room (Nat.le_of_ble_eq_true rfl)) dX7_readOne_136 ⟨Nat.le_of_ble_eq_true rfl, Nat.le_of_ble_eq_true rfl⟩) hS (fun q _ h => XA.le hS.1 q h) (XA.le hS.1) (fun r39 x t H locs ht hvm hw hB _ _ hS => ?_)
          have hP := xB.at ht hB
          clear hB ht hvm
          obtain ⟨st40, sl41, so42⟩ := x
          obtain ⟨hGst40, hLGst40, hOst40, hw⟩ := hw
          dsimp only at hGst40 hLGst40 hOst40 hw
          have hL : LGq sl sl41 := hL.tr hLGst40
          have hO : OG ad [2, 4] so so42 := hO.tr hOst40 (by decide)
          have hP : va_P (dC, dI) vwCl (xw A C nb st40 sl41 so42) _ := hP
          have hG : XG [1, 2, 3, 4, 5, 6, 7, 12, 13, 14, 15] st st40 := hG.tr hGst40 (by decide)
          rcases hw with ⟨rfl, hf43⟩ | ⟨rfl, hf44⟩
          · have hsk : SKs ad st so 1 → SKs ad st40 so42 1 := fun hh => hf43 (hsk hh)
            exact W.zret (v := 1) hx hb hr rfl (fun t ht hW => ⟨⟨1, (st40, sl41, so42), rfl, ⟨hG, hL, hO, Or.inl ⟨rfl, hsk⟩⟩, xB.of ht hP⟩, hS.F ht⟩) hS.2.2 dX7_readOne_139
          · exact W.zret (v := 0) hx hb hr rfl (fun t ht hW => ⟨⟨0, (st40, sl41, so42), rfl, ⟨hG, hL, hO, Or.inr (⟨rfl, by show ¬ st40 1 13 = 0; exact hf44⟩)⟩, xB.of ht hP⟩, hS.F ht⟩) hS.2.2 dX7_readOne_139
        · have c14 : j1 = 15 := (EV.eqw hEv (i := j1) (j := 15) (by omega) (by omega)).mp c14
          refine lv_aload_n hx hb dX7_readOne_108 rfl (lv_at hl 2 rfl) ?_
          refine lv_aload_n hx hb dX7_readOne_109 rfl (lv_at hl 3 rfl) ?_
          refine lv_aload_n hx hb dX7_readOne_110 rfl (lv_at hl 4 rfl) ?_
          refine lv_iload_n hx hb dX7_readOne_111 rfl (lv_at hl 5 rfl) ?_
          refine lv_iconst (v := 1) hx hb dX7_readOne_112 (by decide) ?_
          refine lv_iadd hx hb dX7_readOne_113 ?_
          refine zz_top (v := 9) (by decide) ?_
          refine va_calli (va_runV (As := [.ref (A 1), .ref (A (36 + 20 * 0)), .int 9]) (rest := []) ⟨hx, hb, hml, hown, hts⟩ (x_readOne_9 l dC dI ad E hEE A C nb _ hN st36 sl37 so38  hG.1 hO.1) (cwV 3 hts gX7_readOne_X7_readOne rfl rfl rfl (by decide +kernel) ⟨Nat.le_of_ble_eq_true rfl, Nat.le_of_ble_eq_true rfl⟩) ⟨fun a U g mk q => ⟨q.1, xPre.blind hEE q.2⟩, va_recv hK hP (ci := 8) (q0 := (20 + 4 * 1)) rfl (xw_is (r := (20 + 4 * 1)) (by omega) (xc_sn (q := 1) (o := 0) (by omega) (by omega))), fun U hU hW => ⟨rfl, xPre.of hEE hP hK hE hS hU hW⟩⟩ rfl rfl hl.1 rfl (lv_room (Nat.le_of_ble_eq_true rfl)) dX7_readOne_114 ⟨Nat.le_of_ble_eq_true rfl, Nat.le_of_ble_eq_true rfl⟩) hS (fun q _ h => XA.le hS.1 q h) (XA.le hS.1) (fun r45 x t H locs ht hvm hw hB _ _ hS => ?_)
          have hP := xB.at ht hB
          clear hB ht hvm
          obtain ⟨st46, sl47, so48⟩ := x
          obtain ⟨hGst46, hLGst46, hOst46, hw⟩ := hw
          dsimp only at hGst46 hLGst46 hOst46 hw
          have hL : LGq sl sl47 := hL.tr hLGst46
          have hO : OG ad [2, 4] so so48 := hO.tr hOst46 (by decide)
          have hP : va_P (dC, dI) vwCl (xw A C nb st46 sl47 so48) _ := hP
          have hG : XG [1, 2, 3, 4, 5, 6, 7, 12, 13, 14, 15] st st46 := hG.tr hGst46 (by decide)
          rcases hw with ⟨rfl, hf49⟩ | ⟨rfl, hf50⟩
          · have hsk : SKs ad st so 1 → SKs ad st46 so48 1 := fun hh => hf49 (hsk hh)
            refine lv_istore (lv' := [(6, .int 1), (5, .int 0), (4, .ref (ad j1)), (0, .ref (A (20 + 4 * 1))), (1, .ref (A 1)), (2, .ref (A (36 + 20 * 0))), (3, .int 8)]) hx hb dX7_readOne_117 hl (by decide) rfl (fun ls hl => ?_)
            refine lv_aload_n hx hb dX7_readOne_119 rfl (lv_at hl 3 rfl) ?_
            refine va_gets (v := .ref (ad 15)) hx hb (EV.word hEv (i := 15) (by decide)) hS hown (hts _ mm_X7_readOne_2) (fun _ hh => hh) dX7_readOne_120 ?_
            refine lv_iconst (v := 0) hx hb dX7_readOne_123 (by decide) ?_
            refine lv_iconst (v := 0) hx hb dX7_readOne_124 (by decide) ?_
            refine va_callv (va_runV (As := [.ref (ad 15), .int 0, .int 0]) (rest := []) ⟨hx, hb, hml, hown, hts⟩ (x_X7_add l dC dI ad E hEE A C nb _ hN st46 sl47 so48 15 0 0 (by omega) hG.1 hO.1) (cwV 3 hts gX7_readOne_X7_add rfl rfl rfl (by decide +kernel) ⟨Nat.le_of_ble_eq_true rfl, Nat.le_of_ble_eq_true rfl⟩) ⟨fun a U g mk q => ⟨q.1, xPre.blind hEE q.2⟩, va_recv hK hP (ci := 8) (q0 := (20 + 4 * 1)) rfl (xw_is (r := (20 + 4 * 1)) (by omega) (xc_sn (q := 1) (o := 0) (by omega) (by omega))), fun U hU hW => ⟨rfl, xPre.of hEE hP hK hE hS hU hW⟩⟩ rfl rfl hl.1 rfl (lv_room (Nat.le_of_ble_eq_true rfl)) dX7_readOne_125 ⟨Nat.le_of_ble_eq_true rfl, Nat.le_of_ble_eq_true rfl⟩) hS (fun q _ h => XA.le hS.1 q h) (XA.le hS.1) (fun x t H locs ht hvm hw hB _ _ hS => ?_)
            have hP := xB.at ht hB
            clear hB ht hvm
            obtain ⟨st52, sl53, so54⟩ := x
            obtain ⟨hGst52, hLGst52, hOst52, hw⟩ := hw
            dsimp only at hGst52 hLGst52 hOst52 hw
            have hL : LGq sl sl53 := hL.tr hLGst52
            have hO : OG ad [2, 4] so so54 := hO.tr hOst52 (by decide)
            have hP : va_P (dC, dI) vwCl (xw A C nb st52 sl53 so54) _ := hP
            have hG : XG [1, 2, 3, 4, 5, 6, 7, 12, 13, 14, 15] st st52 := hG.tr hGst52 (by decide)
            have hf55 := hw
            have hsk : SKs ad st so 1 → SKs ad st52 so54 1 := fun hh => hf55 (hsk hh) (fun h9 => absurd h9 (by omega))
            refine lv_iload hx hb dX7_readOne_128 (lv_at hl 0 rfl) ?_
            exact W.zret (v := 1) hx hb hr rfl (fun t ht hW => ⟨⟨1, (st52, sl53, so54), rfl, ⟨hG, hL, hO, Or.inl ⟨rfl, hsk⟩⟩, xB.of ht hP⟩, hS.F ht⟩) hS.2.2 dX7_readOne_130
          · refine lv_istore (lv' := [(6, .int 0), (5, .int 0), (4, .ref (ad j1)), (0, .ref (A (20 + 4 * 1))), (1, .ref (A 1)), (2, .ref (A (36 + 20 * 0))), (3, .int 8)]) hx hb dX7_readOne_117 hl (by decide) rfl (fun ls hl => ?_)
            refine lv_aload_n hx hb dX7_readOne_119 rfl (lv_at hl 3 rfl) ?_
            refine va_gets (v := .ref (ad 15)) hx hb (EV.word hEv (i := 15) (by decide)) hS hown (hts _ mm_X7_readOne_2) (fun _ hh => hh) dX7_readOne_120 ?_
            refine lv_iconst (v := 0) hx hb dX7_readOne_123 (by decide) ?_
            refine lv_iconst (v := 0) hx hb dX7_readOne_124 (by decide) ?_
            refine va_callv (va_runV (As := [.ref (ad 15), .int 0, .int 0]) (rest := []) ⟨hx, hb, hml, hown, hts⟩ (x_X7_add l dC dI ad E hEE A C nb _ hN st46 sl47 so48 15 0 0 (by omega) hG.1 hO.1) (cwV 3 hts gX7_readOne_X7_add rfl rfl rfl (by decide +kernel) ⟨Nat.le_of_ble_eq_true rfl, Nat.le_of_ble_eq_true rfl⟩) ⟨fun a U g mk q => ⟨q.1, xPre.blind hEE q.2⟩, va_recv hK hP (ci := 8) (q0 := (20 + 4 * 1)) rfl (xw_is (r := (20 + 4 * 1)) (by omega) (xc_sn (q := 1) (o := 0) (by omega) (by omega))), fun U hU hW => ⟨rfl, xPre.of hEE hP hK hE hS hU hW⟩⟩ rfl rfl hl.1 rfl (lv_room (Nat.le_of_ble_eq_true rfl)) dX7_readOne_125 ⟨Nat.le_of_ble_eq_true rfl, Nat.le_of_ble_eq_true rfl⟩) hS (fun q _ h => XA.le hS.1 q h) (XA.le hS.1) (fun x t H locs ht hvm hw hB _ _ hS => ?_)
            have hP := xB.at ht hB
            clear hB ht hvm
            obtain ⟨st57, sl58, so59⟩ := x
            obtain ⟨hGst57, hLGst57, hOst57, hw⟩ := hw
            dsimp only at hGst57 hLGst57 hOst57 hw
            have hL : LGq sl sl58 := hL.tr hLGst57
            have hO : OG ad [2, 4] so so59 := hO.tr hOst57 (by decide)
            have hP : va_P (dC, dI) vwCl (xw A C nb st57 sl58 so59) _ := hP
            have hG : XG [1, 2, 3, 4, 5, 6, 7, 12, 13, 14, 15] st st57 := hG.tr hGst57 (by decide)
            have hf60 := hw
            refine lv_iload hx hb dX7_readOne_128 (lv_at hl 0 rfl) ?_
            exact W.zret (v := 0) hx hb hr rfl (fun t ht hW => ⟨⟨0, (st57, sl58, so59), rfl, ⟨hG, hL, hO, Or.inr (⟨rfl, by show ¬ st57 1 13 = 0; rw [hGst57.2 1 13 (by rw [(by decide : xcl 1 13 = 10)]; decide)]; exact hf50⟩)⟩, xB.of ht hP⟩, hS.F ht⟩) hS.2.2 dX7_readOne_130
    · refine lv_if_ne (tgt := 33) hx hb dX7_readOne_24 (by decide) (fun cc => absurd (by decide) cc) (fun _ => ?_)
      refine lv_aload_n hx hb dX7_readOne_27 rfl (lv_at hl 3 rfl) ?_
      refine lv_iconst (v := 1) hx hb dX7_readOne_28 (by decide) ?_
      refine va_calli (va_runV (As := [.int 1]) (rest := []) ⟨hx, hb, hml, hown, hts⟩ (x_X8_refuse l dC dI ad E hEE A C nb _ hN st sl so 1  hG.1) (cwV 1 hts gX7_readOne_X8_refuse rfl rfl rfl (by decide +kernel) ⟨Nat.le_of_ble_eq_true rfl, Nat.le_of_ble_eq_true rfl⟩) ⟨fun a U g mk q => ⟨q.1, xPre.blind hEE q.2⟩, va_recv hK hP (ci := 9) (q0 := 1) rfl (xw_is (r := 1) (by omega) (xc_fix (r := 1) (by omega))), fun U hU hW => ⟨rfl, xPre.of hEE hP hK hE hS hU hW⟩⟩ rfl rfl hl.1 rfl (lv_room (Nat.le_of_ble_eq_true rfl)) dX7_readOne_29 ⟨Nat.le_of_ble_eq_true rfl, Nat.le_of_ble_eq_true rfl⟩) hS (fun q _ h => XA.le hS.1 q h) (XA.le hS.1) (fun r61 x t H locs ht hvm hw hB _ _ hS => ?_)
      have hP := xB.at ht hB
      clear hB ht hvm
      obtain ⟨st62, sl63, so64⟩ := x
      obtain ⟨hGst62, hLGst62, hOst62, hw⟩ := hw
      dsimp only at hGst62 hLGst62 hOst62 hw
      have hL : LGq sl sl63 := hL.tr hLGst62
      replace hOst62 := hOst62.symm
      subst hOst62
      have hP : va_P (dC, dI) vwCl (xw A C nb st62 sl63 so) _ := hP
      have hG : XG [1, 2, 3, 4, 5, 6, 7, 12, 13, 14, 15] st st62 := hG.tr hGst62 (by decide)
      obtain ⟨rfl, hf65⟩ := hw
      have hsk : SKs ad st so 1 → SKs ad st62 so 1 := fun hh => SKs.mgs (hsk hh) (by omega) hGst62 (by decide) (by decide)
      exact W.zret (v := 0) hx hb hr rfl (fun t ht hW => ⟨⟨0, (st62, sl63, so), rfl, ⟨hG, hL, hO, Or.inr (⟨rfl, by show ¬ st62 1 13 = 0; rw [hf65]; decide⟩)⟩, xB.of ht hP⟩, hS.F ht⟩) hS.2.2 dX7_readOne_32
