set_option maxHeartbeats 4000000 in
set_option maxRecDepth 100000 in
theorem x_readCond_1 (l : Launch) (dC : Nat → ClassId) (dI : Nat → Nat → Nat) (ad : Nat → Nat) (E : EP) (hEE : EC ad E) (A : Nat → Nat) (C : Nat → ClassId) (nb sz : Nat) (hN : XN A) (st : Nat → Nat → Int32) (sl : Nat → Nat → Int64) (so : Nat → XR) (hI : XI st) (hOI : OI ad so) : Met l yX7_readCond wsX7_readCond ({ frames := 23, cells := 0, slots := 0, locals := 567 }) (va_Pc [.ref (A (20 + 4 * 1)), .ref (A 1), .ref (A (36 + 20 * 0)), .int 1] (xPre E dC dI A C nb sz st sl so)) (va_Qi (fun (r : Int32) (x : XT) => XG [1, 2, 3, 4, 5, 6, 7, 12, 13, 14, 15] st x.1 ∧ LGq sl x.2.1 ∧ OG ad [2, 4] so x.2.2 ∧ ((r = 1 ∧ (SKs ad st so 1 → SKs ad x.1 x.2.2 1)) ∨ (r = 0 ∧ ¬ x.1 1 13 = 0))) (xB dC dI A C nb) (XA A sz)) 0 0 (XA A sz) := by
  refine Met.ofW (cc := cX7_readCond) (maxL := 7) (ret := (some .boolean)) (by decide) rfl ?_
  intro p e s m args below meth c s₁ B hml hv
  obtain ⟨rfl, hsz, hP, hK, hE⟩ := hv
  have hx := B.exec
  have hb := B.bytes
  have hr := B.returns
  have hts := atoms_spec (ws := wsX7_readCond) B.pre
  have hown : s.vm.findClass RX7 = some m.cls := findClass_of_methodNamed B.named
  subst hsz
  have hEv := hEE.1 _ _ _ hE
  have hS : va_S (XA A s.heap.size) s.heap s.heap [] := va_S.rf
  have hG : XG [1, 2, 3, 4, 5, 6, 7, 12, 13, 14, 15] st st := XG.rf hI
  have hO : OG ad [2, 4] so so := OG.rf hOI
  have hl := lv_entry ([.ref (A (20 + 4 * 1)), .ref (A 1), .ref (A (36 + 20 * 0)), .int 1]) (n := 7) (Nat.le_of_ble_eq_true rfl)
  rw [lg_entry_eq]
  generalize (lg_sl ([.ref (A (20 + 4 * 1)), .ref (A 1), .ref (A (36 + 20 * 0)), .int 1]) ++ List.replicate (7 - (lg_sl ([.ref (A (20 + 4 * 1)), .ref (A 1), .ref (A (36 + 20 * 0)), .int 1])).length) Slot.unset).toArray = ls at hl ⊢
  have hl : lv_has ls 7 [(0, .ref (A (20 + 4 * 1))), (1, .ref (A 1)), (2, .ref (A (36 + 20 * 0))), (3, .int 1)] := hl
  have hL : LGq sl sl := LGq.rf
  have hsk : SKs ad st so 1 → SKs ad st so 1 := fun hh => hh
  refine lv_aload_n hx hb dX7_readCond_0 rfl (lv_at hl 0 rfl) ?_
  refine lv_aload_n hx hb dX7_readCond_1 rfl (lv_at hl 1 rfl) ?_
  refine lv_aload_n hx hb dX7_readCond_2 rfl (lv_at hl 2 rfl) ?_
  refine lv_iload_n hx hb dX7_readCond_3 rfl (lv_at hl 3 rfl) ?_
  refine va_calli (va_runV (As := [.ref (A 1), .ref (A (36 + 20 * 0)), .int 1]) (rest := []) ⟨hx, hb, hml, hown, hts⟩ (x_readOne_1 l dC dI ad E hEE A C nb _ hN st sl so  hG.1 hO.1) (cwV 3 hts gX7_readCond_X7_readOne rfl rfl rfl (by decide +kernel) ⟨Nat.le_of_ble_eq_true rfl, Nat.le_of_ble_eq_true rfl⟩) ⟨fun a U g mk q => ⟨q.1, xPre.blind hEE q.2⟩, va_recv hK hP (ci := 8) (q0 := (20 + 4 * 1)) rfl (xw_is (r := (20 + 4 * 1)) (by omega) (xc_sn (q := 1) (o := 0) (by omega) (by omega))), fun U hU hW => ⟨rfl, xPre.of hEE hP hK hE hS hU hW⟩⟩ rfl rfl hl.1 rfl (lv_room (Nat.le_of_ble_eq_true rfl)) dX7_readCond_4 ⟨Nat.le_of_ble_eq_true rfl, Nat.le_of_ble_eq_true rfl⟩) hS (fun q _ h => XA.le hS.1 q h) (XA.le hS.1) (fun r1 x t H locs ht hvm hw hB _ _ hS => ?_)
  have hP := xB.at ht hB
  clear hB ht hvm
  obtain ⟨st2, sl3, so4⟩ := x
  obtain ⟨hGst2, hLGst2, hOst2, hw⟩ := hw
  dsimp only at hGst2 hLGst2 hOst2 hw
  have hL : LGq sl sl3 := hL.tr hLGst2
  have hO : OG ad [2, 4] so so4 := hO.tr hOst2 (by decide)
  have hP : va_P (dC, dI) vwCl (xw A C nb st2 sl3 so4) _ := hP
  have hG : XG [1, 2, 3, 4, 5, 6, 7, 12, 13, 14, 15] st st2 := hG.tr hGst2 (by decide)
  rcases hw with ⟨rfl, hf5⟩ | ⟨rfl, hf6⟩
  · have hsk : SKs ad st so 1 → SKs ad st2 so4 1 := fun hh => hf5 (hsk hh)
    refine lv_istore (lv' := [(4, .int 1), (0, .ref (A (20 + 4 * 1))), (1, .ref (A 1)), (2, .ref (A (36 + 20 * 0))), (3, .int 1)]) hx hb dX7_readCond_7 hl (by decide) rfl (fun ls hl => ?_)
    refine lv_iconst (v := 0) hx hb dX7_readCond_9 (by decide) ?_
    refine lv_istore (lv' := [(5, .int 0), (4, .int 1), (0, .ref (A (20 + 4 * 1))), (1, .ref (A 1)), (2, .ref (A (36 + 20 * 0))), (3, .int 1)]) hx hb dX7_readCond_10 hl (by decide) rfl (fun ls hl => ?_)
    refine lv_iconst (v := 0) hx hb dX7_readCond_12 (by decide) ?_
    refine lv_istore (lv' := [(6, .int 0), (5, .int 0), (4, .int 1), (0, .ref (A (20 + 4 * 1))), (1, .ref (A 1)), (2, .ref (A (36 + 20 * 0))), (3, .int 1)]) hx hb dX7_readCond_13 hl (by decide) rfl (fun ls hl => ?_)
    refine zz_wf (fun n stk H locs ls => ∃ k7 : Nat, ∃ k8 : Nat, ∃ k9 : Nat, ∃ st10 : Nat → Nat → Int32, ∃ sl11 : Nat → Nat → Int64, ∃ so12 : Nat → XR, n = 21 - k7 ∧ 0 ≤ k7 ∧ k7 < 21 ∧ 0 ≤ k8 ∧ k8 < 2 ∧ 0 ≤ k9 ∧ k9 < 2 ∧ ((k9 = 1 → SKs ad st so 1 → SKs ad st10 so12 1)) ∧ ((k9 = 0 → ¬ st10 1 13 = 0)) ∧ va_P (dC, dI) vwCl (xw A C nb st10 sl11 so12) H ∧ XG [1, 2, 3, 4, 5, 6, 7, 12, 13, 14, 15] st st10 ∧ OG ad [2, 4] so so12 ∧ LGq sl sl11 ∧ va_S (XA A s.heap.size) s.heap H locs ∧ lv_has ls 7 [(6, .int (nI k7)), (5, .int (nI k8)), (4, .int (nI k9)), (0, .ref (A (20 + 4 * 1))), (1, .ref (A 1)), (2, .ref (A (36 + 20 * 0))), (3, .int 1)] ∧ stk = []) ?_ (21 - 0) _ _ _ _ ⟨0, 0, 1, st2, sl3, so4, rfl, by omega, by omega, by omega, by omega, by omega, by omega, fun _ => hsk, fun h9 => absurd h9 (by omega), hP, hG, hO, hL, hS, lv_sub hl [0, 1, 2, 3, 4, 5, 6] rfl, rfl⟩
    rintro nn stk H locs ls ⟨k7, k8, k9, st10, sl11, so12, hm20, hv13_0, hv14_1, hv15_2, hv16_3, hv17_4, hv18_5, hv19_0, hv20_1, hP, hG, hO, hL, hS, hl, rfl⟩ ih21
    refine lv_iload hx hb dX7_readCond_15 (lv_at hl 0 rfl) ?_
    refine lv_bipush (v := 20) hx hb dX7_readCond_17 (by decide) ?_
    refine lv_icmp_ge (tgt := 108) hx hb dX7_readCond_19 (by decide) (fun c1 => ?_) (fun c1 => ?_)
    · have c1 : 20 ≤ k7 := (nI_leI (a := 20) (b := k7) (by omega) (by omega)).mp c1
      by_cases cg : k9 = 1
      · have hsk : SKs ad st so 1 → SKs ad st10 so12 1 := hv19_0 cg
        have hl : lv_has ls 7 [(6, .int (nI k7)), (5, .int (nI k8)), (4, .int 1), (0, .ref (A (20 + 4 * 1))), (1, .ref (A 1)), (2, .ref (A (36 + 20 * 0))), (3, .int 1)] := by rw [cg] at hl; exact hl
        refine lv_iload hx hb dX7_readCond_108 (lv_at hl 1 rfl) ?_
        refine lv_if_eq (tgt := 122) hx hb dX7_readCond_110 (by decide) (fun c2 => ?_) (fun c2 => ?_)
        · have c2 : k8 = 0 := (nI_eq (a := k8) (b := 0) (by omega) (by omega)).mp c2
          refine lv_iload hx hb dX7_readCond_122 (lv_at hl 2 rfl) ?_
          refine lv_if_eq (tgt := 146) hx hb dX7_readCond_124 (by decide) (fun cc => absurd cc (by decide)) (fun _ => ?_)
          refine lv_iload_n hx hb dX7_readCond_127 rfl (lv_at hl 6 rfl) ?_
          refine lv_iconst (v := 1) hx hb dX7_readCond_128 (by decide) ?_
          refine lv_icmp_ne (tgt := 146) hx hb dX7_readCond_129 (by decide) (fun cc => absurd (by decide) cc) (fun _ => ?_)
          refine lv_aload_n hx hb dX7_readCond_132 rfl (lv_at hl 4 rfl) ?_
          refine va_getN (host := "OffTheLead") (D := (dC, dI)) (ci := 9) (v := .int (st10 1 4)) (C := RX8) (T := TX8) (N := 15) hx hb hts ii_X7_readCond_X8 hown hK hP 1 (xw_is (r := 1) (by omega) (xc_fix (r := 1) (by omega))) rfl 4 (by decide) (va_Nw.use rfl (nf_X7_54 hEv)) (fun _ hh => hh) rfl dX7_readCond_133 ?_
          obtain ⟨z22, ez22⟩ : ∃ y : Int32, st10 1 4 = y := ⟨_, rfl⟩
          refine zz_top (v := z22) (by exact ez22) ?_
          refine lv_iconst (v := 3) hx hb dX7_readCond_136 (by decide) ?_
          refine lv_icmp_eq (tgt := 146) hx hb dX7_readCond_137 (by decide) (fun c5 => ?_) (fun c5 => ?_)
          · refine lv_iload hx hb dX7_readCond_146 (lv_at hl 2 rfl) ?_
            exact W.zret (v := 1) hx hb hr rfl (fun t ht hW => ⟨⟨1, (st10, sl11, so12), rfl, ⟨hG, hL, hO, Or.inl ⟨rfl, hsk⟩⟩, xB.of ht hP⟩, hS.F ht⟩) hS.2.2 dX7_readCond_148
          · refine lv_aload_n hx hb dX7_readCond_140 rfl (lv_at hl 4 rfl) ?_
            refine lv_iconst (v := 1) hx hb dX7_readCond_141 (by decide) ?_
            refine va_calli (va_runV (As := [.int 1]) (rest := []) ⟨hx, hb, hml, hown, hts⟩ (x_X8_refuse l dC dI ad E hEE A C nb _ hN st10 sl11 so12 1  hG.1) (cwV 1 hts gX7_readCond_X8_refuse rfl rfl rfl (by decide +kernel) ⟨Nat.le_of_ble_eq_true rfl, Nat.le_of_ble_eq_true rfl⟩) ⟨fun a U g mk q => ⟨q.1, xPre.blind hEE q.2⟩, va_recv hK hP (ci := 9) (q0 := 1) rfl (xw_is (r := 1) (by omega) (xc_fix (r := 1) (by omega))), fun U hU hW => ⟨rfl, xPre.of hEE hP hK hE hS hU hW⟩⟩ rfl rfl hl.1 rfl (lv_room (Nat.le_of_ble_eq_true rfl)) dX7_readCond_142 ⟨Nat.le_of_ble_eq_true rfl, Nat.le_of_ble_eq_true rfl⟩) hS (fun q _ h => XA.le hS.1 q h) (XA.le hS.1) (fun r23 x t H locs ht hvm hw hB _ _ hS => ?_)
            have hP := xB.at ht hB
            clear hB ht hvm
            obtain ⟨st24, sl25, so26⟩ := x
            obtain ⟨hGst24, hLGst24, hOst24, hw⟩ := hw
            dsimp only at hGst24 hLGst24 hOst24 hw
            have hL : LGq sl sl25 := hL.tr hLGst24
            replace hOst24 := hOst24.symm
            subst hOst24
            have hP : va_P (dC, dI) vwCl (xw A C nb st24 sl25 so12) _ := hP
            have hG : XG [1, 2, 3, 4, 5, 6, 7, 12, 13, 14, 15] st st24 := hG.tr hGst24 (by decide)
            obtain ⟨rfl, hf27⟩ := hw
            have hsk : SKs ad st so 1 → SKs ad st24 so12 1 := fun hh => SKs.mgs (hsk hh) (by omega) hGst24 (by decide) (by decide)
            exact W.zret (v := 0) hx hb hr rfl (fun t ht hW => ⟨⟨0, (st24, sl25, so12), rfl, ⟨hG, hL, hO, Or.inr (⟨rfl, by show ¬ st24 1 13 = 0; rw [hf27]; decide⟩)⟩, xB.of ht hP⟩, hS.F ht⟩) hS.2.2 dX7_readCond_145
        · have c2 : ¬ k8 = 0 := fun hh => c2 ((nI_eq (a := k8) (b := 0) (by omega) (by omega)).mpr hh)
          refine lv_aload_n hx hb dX7_readCond_113 rfl (lv_at hl 3 rfl) ?_
          refine va_gets (v := .ref (ad 13)) hx hb (EV.word hEv (i := 13) (by decide)) hS hown (hts _ mm_X7_readCond_2) (fun _ hh => hh) dX7_readCond_114 ?_
          refine lv_iconst (v := 0) hx hb dX7_readCond_117 (by decide) ?_
          refine lv_iconst (v := 0) hx hb dX7_readCond_118 (by decide) ?_
          refine va_callv (va_runV (As := [.ref (ad 13), .int 0, .int 0]) (rest := []) ⟨hx, hb, hml, hown, hts⟩ (x_X7_add l dC dI ad E hEE A C nb _ hN st10 sl11 so12 13 0 0 (by omega) hG.1 hO.1) (cwV 3 hts gX7_readCond_X7_add rfl rfl rfl (by decide +kernel) ⟨Nat.le_of_ble_eq_true rfl, Nat.le_of_ble_eq_true rfl⟩) ⟨fun a U g mk q => ⟨q.1, xPre.blind hEE q.2⟩, va_recv hK hP (ci := 8) (q0 := (20 + 4 * 1)) rfl (xw_is (r := (20 + 4 * 1)) (by omega) (xc_sn (q := 1) (o := 0) (by omega) (by omega))), fun U hU hW => ⟨rfl, xPre.of hEE hP hK hE hS hU hW⟩⟩ rfl rfl hl.1 rfl (lv_room (Nat.le_of_ble_eq_true rfl)) dX7_readCond_119 ⟨Nat.le_of_ble_eq_true rfl, Nat.le_of_ble_eq_true rfl⟩) hS (fun q _ h => XA.le hS.1 q h) (XA.le hS.1) (fun x t H locs ht hvm hw hB _ _ hS => ?_)
          have hP := xB.at ht hB
          clear hB ht hvm
          obtain ⟨st29, sl30, so31⟩ := x
          obtain ⟨hGst29, hLGst29, hOst29, hw⟩ := hw
          dsimp only at hGst29 hLGst29 hOst29 hw
          have hL : LGq sl sl30 := hL.tr hLGst29
          have hO : OG ad [2, 4] so so31 := hO.tr hOst29 (by decide)
          have hP : va_P (dC, dI) vwCl (xw A C nb st29 sl30 so31) _ := hP
          have hG : XG [1, 2, 3, 4, 5, 6, 7, 12, 13, 14, 15] st st29 := hG.tr hGst29 (by decide)
          have hf32 := hw
          have hsk : SKs ad st so 1 → SKs ad st29 so31 1 := fun hh => hf32 (hsk hh) (fun h9 => absurd h9 (by omega))
          refine lv_iload hx hb dX7_readCond_122 (lv_at hl 2 rfl) ?_
          refine lv_if_eq (tgt := 146) hx hb dX7_readCond_124 (by decide) (fun cc => absurd cc (by decide)) (fun _ => ?_)
          refine lv_iload_n hx hb dX7_readCond_127 rfl (lv_at hl 6 rfl) ?_
          refine lv_iconst (v := 1) hx hb dX7_readCond_128 (by decide) ?_
          refine lv_icmp_ne (tgt := 146) hx hb dX7_readCond_129 (by decide) (fun cc => absurd (by decide) cc) (fun _ => ?_)
          refine lv_aload_n hx hb dX7_readCond_132 rfl (lv_at hl 4 rfl) ?_
          refine va_getN (host := "OffTheLead") (D := (dC, dI)) (ci := 9) (v := .int (st29 1 4)) (C := RX8) (T := TX8) (N := 15) hx hb hts ii_X7_readCond_X8 hown hK hP 1 (xw_is (r := 1) (by omega) (xc_fix (r := 1) (by omega))) rfl 4 (by decide) (va_Nw.use rfl (nf_X7_54 hEv)) (fun _ hh => hh) rfl dX7_readCond_133 ?_
          obtain ⟨z33, ez33⟩ : ∃ y : Int32, st29 1 4 = y := ⟨_, rfl⟩
          refine zz_top (v := z33) (by exact ez33) ?_
          refine lv_iconst (v := 3) hx hb dX7_readCond_136 (by decide) ?_
          refine lv_icmp_eq (tgt := 146) hx hb dX7_readCond_137 (by decide) (fun c8 => ?_) (fun c8 => ?_)
          · refine lv_iload hx hb dX7_readCond_146 (lv_at hl 2 rfl) ?_
            exact W.zret (v := 1) hx hb hr rfl (fun t ht hW => ⟨⟨1, (st29, sl30, so31), rfl, ⟨hG, hL, hO, Or.inl ⟨rfl, hsk⟩⟩, xB.of ht hP⟩, hS.F ht⟩) hS.2.2 dX7_readCond_148
          · refine lv_aload_n hx hb dX7_readCond_140 rfl (lv_at hl 4 rfl) ?_
            refine lv_iconst (v := 1) hx hb dX7_readCond_141 (by decide) ?_
            refine va_calli (va_runV (As := [.int 1]) (rest := []) ⟨hx, hb, hml, hown, hts⟩ (x_X8_refuse l dC dI ad E hEE A C nb _ hN st29 sl30 so31 1  hG.1) (cwV 1 hts gX7_readCond_X8_refuse rfl rfl rfl (by decide +kernel) ⟨Nat.le_of_ble_eq_true rfl, Nat.le_of_ble_eq_true rfl⟩) ⟨fun a U g mk q => ⟨q.1, xPre.blind hEE q.2⟩, va_recv hK hP (ci := 9) (q0 := 1) rfl (xw_is (r := 1) (by omega) (xc_fix (r := 1) (by omega))), fun U hU hW => ⟨rfl, xPre.of hEE hP hK hE hS hU hW⟩⟩ rfl rfl hl.1 rfl (lv_room (Nat.le_of_ble_eq_true rfl)) dX7_readCond_142 ⟨Nat.le_of_ble_eq_true rfl, Nat.le_of_ble_eq_true rfl⟩) hS (fun q _ h => XA.le hS.1 q h) (XA.le hS.1) (fun r34 x t H locs ht hvm hw hB _ _ hS => ?_)
            have hP := xB.at ht hB
            clear hB ht hvm
            obtain ⟨st35, sl36, so37⟩ := x
            obtain ⟨hGst35, hLGst35, hOst35, hw⟩ := hw
            dsimp only at hGst35 hLGst35 hOst35 hw
            have hL : LGq sl sl36 := hL.tr hLGst35
            replace hOst35 := hOst35.symm
            subst hOst35
            have hP : va_P (dC, dI) vwCl (xw A C nb st35 sl36 so31) _ := hP
            have hG : XG [1, 2, 3, 4, 5, 6, 7, 12, 13, 14, 15] st st35 := hG.tr hGst35 (by decide)
            obtain ⟨rfl, hf38⟩ := hw
            have hsk : SKs ad st so 1 → SKs ad st35 so31 1 := fun hh => SKs.mgs (hsk hh) (by omega) hGst35 (by decide) (by decide)
            exact W.zret (v := 0) hx hb hr rfl (fun t ht hW => ⟨⟨0, (st35, sl36, so31), rfl, ⟨hG, hL, hO, Or.inr (⟨rfl, by show ¬ st35 1 13 = 0; rw [hf38]; decide⟩)⟩, xB.of ht hP⟩, hS.F ht⟩) hS.2.2 dX7_readCond_145
      · have cg : k9 = 0 := by omega
        have hfa : ¬ st10 1 13 = 0 := hv20_1 cg
        have hl : lv_has ls 7 [(6, .int (nI k7)), (5, .int (nI k8)), (4, .int 0), (0, .ref (A (20 + 4 * 1))), (1, .ref (A 1)), (2, .ref (A (36 + 20 * 0))), (3, .int 1)] := by rw [cg] at hl; exact hl
        refine lv_iload hx hb dX7_readCond_108 (lv_at hl 1 rfl) ?_
        refine lv_if_eq (tgt := 122) hx hb dX7_readCond_110 (by decide) (fun c9 => ?_) (fun c9 => ?_)
        · have c9 : k8 = 0 := (nI_eq (a := k8) (b := 0) (by omega) (by omega)).mp c9
          refine lv_iload hx hb dX7_readCond_122 (lv_at hl 2 rfl) ?_
          refine lv_if_eq (tgt := 146) hx hb dX7_readCond_124 (by decide) (fun _ => ?_) (fun cc => absurd (by decide) cc)
          refine lv_iload hx hb dX7_readCond_146 (lv_at hl 2 rfl) ?_
          exact W.zret (v := 0) hx hb hr rfl (fun t ht hW => ⟨⟨0, (st10, sl11, so12), rfl, ⟨hG, hL, hO, Or.inr (⟨rfl, by show ¬ st10 1 13 = 0; exact hfa⟩)⟩, xB.of ht hP⟩, hS.F ht⟩) hS.2.2 dX7_readCond_148
        · have c9 : ¬ k8 = 0 := fun hh => c9 ((nI_eq (a := k8) (b := 0) (by omega) (by omega)).mpr hh)
          refine lv_aload_n hx hb dX7_readCond_113 rfl (lv_at hl 3 rfl) ?_
          refine va_gets (v := .ref (ad 13)) hx hb (EV.word hEv (i := 13) (by decide)) hS hown (hts _ mm_X7_readCond_2) (fun _ hh => hh) dX7_readCond_114 ?_
          refine lv_iconst (v := 0) hx hb dX7_readCond_117 (by decide) ?_
          refine lv_iconst (v := 0) hx hb dX7_readCond_118 (by decide) ?_
          refine va_callv (va_runV (As := [.ref (ad 13), .int 0, .int 0]) (rest := []) ⟨hx, hb, hml, hown, hts⟩ (x_X7_add l dC dI ad E hEE A C nb _ hN st10 sl11 so12 13 0 0 (by omega) hG.1 hO.1) (cwV 3 hts gX7_readCond_X7_add rfl rfl rfl (by decide +kernel) ⟨Nat.le_of_ble_eq_true rfl, Nat.le_of_ble_eq_true rfl⟩) ⟨fun a U g mk q => ⟨q.1, xPre.blind hEE q.2⟩, va_recv hK hP (ci := 8) (q0 := (20 + 4 * 1)) rfl (xw_is (r := (20 + 4 * 1)) (by omega) (xc_sn (q := 1) (o := 0) (by omega) (by omega))), fun U hU hW => ⟨rfl, xPre.of hEE hP hK hE hS hU hW⟩⟩ rfl rfl hl.1 rfl (lv_room (Nat.le_of_ble_eq_true rfl)) dX7_readCond_119 ⟨Nat.le_of_ble_eq_true rfl, Nat.le_of_ble_eq_true rfl⟩) hS (fun q _ h => XA.le hS.1 q h) (XA.le hS.1) (fun x t H locs ht hvm hw hB _ _ hS => ?_)
          have hP := xB.at ht hB
          clear hB ht hvm
          obtain ⟨st40, sl41, so42⟩ := x
          obtain ⟨hGst40, hLGst40, hOst40, hw⟩ := hw
          dsimp only at hGst40 hLGst40 hOst40 hw
          have hL : LGq sl sl41 := hL.tr hLGst40
          have hO : OG ad [2, 4] so so42 := hO.tr hOst40 (by decide)
          have hP : va_P (dC, dI) vwCl (xw A C nb st40 sl41 so42) _ := hP
          have hG : XG [1, 2, 3, 4, 5, 6, 7, 12, 13, 14, 15] st st40 := hG.tr hGst40 (by decide)
          have hf43 := hw
          refine lv_iload hx hb dX7_readCond_122 (lv_at hl 2 rfl) ?_
          refine lv_if_eq (tgt := 146) hx hb dX7_readCond_124 (by decide) (fun _ => ?_) (fun cc => absurd (by decide) cc)
          refine lv_iload hx hb dX7_readCond_146 (lv_at hl 2 rfl) ?_
          exact W.zret (v := 0) hx hb hr rfl (fun t ht hW => ⟨⟨0, (st40, sl41, so42), rfl, ⟨hG, hL, hO, Or.inr (⟨rfl, by show ¬ st40 1 13 = 0; rw [hGst40.2 1 13 (by rw [(by decide : xcl 1 13 = 10)]; decide)]; exact hfa⟩)⟩, xB.of ht hP⟩, hS.F ht⟩) hS.2.2 dX7_readCond_148
    · have c1 : ¬ 20 ≤ k7 := fun hh => c1 ((nI_leI (a := 20) (b := k7) (by omega) (by omega)).mpr hh)
      refine lv_iload hx hb dX7_readCond_22 (lv_at hl 2 rfl) ?_
      refine lv_if_eq (tgt := 108) hx hb dX7_readCond_24 (by decide) (fun c12 => ?_) (fun c12 => ?_)
      · have c12 : k9 = 0 := (nI_eq (a := k9) (b := 0) (by omega) (by omega)).mp c12
        by_cases cg : k9 = 1
        · have hsk : SKs ad st so 1 → SKs ad st10 so12 1 := hv19_0 cg
          have hl : lv_has ls 7 [(6, .int (nI k7)), (5, .int (nI k8)), (4, .int 1), (0, .ref (A (20 + 4 * 1))), (1, .ref (A 1)), (2, .ref (A (36 + 20 * 0))), (3, .int 1)] := by rw [cg] at hl; exact hl
          refine lv_iload hx hb dX7_readCond_108 (lv_at hl 1 rfl) ?_
          refine lv_if_eq (tgt := 122) hx hb dX7_readCond_110 (by decide) (fun c13 => ?_) (fun c13 => ?_)
          · have c13 : k8 = 0 := (nI_eq (a := k8) (b := 0) (by omega) (by omega)).mp c13
            refine lv_iload hx hb dX7_readCond_122 (lv_at hl 2 rfl) ?_
            refine lv_if_eq (tgt := 146) hx hb dX7_readCond_124 (by decide) (fun cc => absurd cc (by decide)) (fun _ => ?_)
            refine lv_iload_n hx hb dX7_readCond_127 rfl (lv_at hl 6 rfl) ?_
            refine lv_iconst (v := 1) hx hb dX7_readCond_128 (by decide) ?_
            refine lv_icmp_ne (tgt := 146) hx hb dX7_readCond_129 (by decide) (fun cc => absurd (by decide) cc) (fun _ => ?_)
            refine lv_aload_n hx hb dX7_readCond_132 rfl (lv_at hl 4 rfl) ?_
            refine va_getN (host := "OffTheLead") (D := (dC, dI)) (ci := 9) (v := .int (st10 1 4)) (C := RX8) (T := TX8) (N := 15) hx hb hts ii_X7_readCond_X8 hown hK hP 1 (xw_is (r := 1) (by omega) (xc_fix (r := 1) (by omega))) rfl 4 (by decide) (va_Nw.use rfl (nf_X7_54 hEv)) (fun _ hh => hh) rfl dX7_readCond_133 ?_
            obtain ⟨z44, ez44⟩ : ∃ y : Int32, st10 1 4 = y := ⟨_, rfl⟩
            refine zz_top (v := z44) (by exact ez44) ?_
            refine lv_iconst (v := 3) hx hb dX7_readCond_136 (by decide) ?_
            refine lv_icmp_eq (tgt := 146) hx hb dX7_readCond_137 (by decide) (fun c16 => ?_) (fun c16 => ?_)
            · refine lv_iload hx hb dX7_readCond_146 (lv_at hl 2 rfl) ?_
              exact W.zret (v := 1) hx hb hr rfl (fun t ht hW => ⟨⟨1, (st10, sl11, so12), rfl, ⟨hG, hL, hO, Or.inl ⟨rfl, hsk⟩⟩, xB.of ht hP⟩, hS.F ht⟩) hS.2.2 dX7_readCond_148
            · refine lv_aload_n hx hb dX7_readCond_140 rfl (lv_at hl 4 rfl) ?_
              refine lv_iconst (v := 1) hx hb dX7_readCond_141 (by decide) ?_
              refine va_calli (va_runV (As := [.int 1]) (rest := []) ⟨hx, hb, hml, hown, hts⟩ (x_X8_refuse l dC dI ad E hEE A C nb _ hN st10 sl11 so12 1  hG.1) (cwV 1 hts gX7_readCond_X8_refuse rfl rfl rfl (by decide +kernel) ⟨Nat.le_of_ble_eq_true rfl, Nat.le_of_ble_eq_true rfl⟩) ⟨fun a U g mk q => ⟨q.1, xPre.blind hEE q.2⟩, va_recv hK hP (ci := 9) (q0 := 1) rfl (xw_is (r := 1) (by omega) (xc_fix (r := 1) (by omega))), fun U hU hW => ⟨rfl, xPre.of hEE hP hK hE hS hU hW⟩⟩ rfl rfl hl.1 rfl (lv_room (Nat.le_of_ble_eq_true rfl)) dX7_readCond_142 ⟨Nat.le_of_ble_eq_true rfl, Nat.le_of_ble_eq_true rfl⟩) hS (fun q _ h => XA.le hS.1 q h) (XA.le hS.1) (fun r45 x t H locs ht hvm hw hB _ _ hS => ?_)
              have hP := xB.at ht hB
              clear hB ht hvm
              obtain ⟨st46, sl47, so48⟩ := x
              obtain ⟨hGst46, hLGst46, hOst46, hw⟩ := hw
              dsimp only at hGst46 hLGst46 hOst46 hw
              have hL : LGq sl sl47 := hL.tr hLGst46
              replace hOst46 := hOst46.symm
              subst hOst46
              have hP : va_P (dC, dI) vwCl (xw A C nb st46 sl47 so12) _ := hP
              have hG : XG [1, 2, 3, 4, 5, 6, 7, 12, 13, 14, 15] st st46 := hG.tr hGst46 (by decide)
              obtain ⟨rfl, hf49⟩ := hw
              have hsk : SKs ad st so 1 → SKs ad st46 so12 1 := fun hh => SKs.mgs (hsk hh) (by omega) hGst46 (by decide) (by decide)
              exact W.zret (v := 0) hx hb hr rfl (fun t ht hW => ⟨⟨0, (st46, sl47, so12), rfl, ⟨hG, hL, hO, Or.inr (⟨rfl, by show ¬ st46 1 13 = 0; rw [hf49]; decide⟩)⟩, xB.of ht hP⟩, hS.F ht⟩) hS.2.2 dX7_readCond_145
          · have c13 : ¬ k8 = 0 := fun hh => c13 ((nI_eq (a := k8) (b := 0) (by omega) (by omega)).mpr hh)
            refine lv_aload_n hx hb dX7_readCond_113 rfl (lv_at hl 3 rfl) ?_
            refine va_gets (v := .ref (ad 13)) hx hb (EV.word hEv (i := 13) (by decide)) hS hown (hts _ mm_X7_readCond_2) (fun _ hh => hh) dX7_readCond_114 ?_
            refine lv_iconst (v := 0) hx hb dX7_readCond_117 (by decide) ?_
            refine lv_iconst (v := 0) hx hb dX7_readCond_118 (by decide) ?_
            refine va_callv (va_runV (As := [.ref (ad 13), .int 0, .int 0]) (rest := []) ⟨hx, hb, hml, hown, hts⟩ (x_X7_add l dC dI ad E hEE A C nb _ hN st10 sl11 so12 13 0 0 (by omega) hG.1 hO.1) (cwV 3 hts gX7_readCond_X7_add rfl rfl rfl (by decide +kernel) ⟨Nat.le_of_ble_eq_true rfl, Nat.le_of_ble_eq_true rfl⟩) ⟨fun a U g mk q => ⟨q.1, xPre.blind hEE q.2⟩, va_recv hK hP (ci := 8) (q0 := (20 + 4 * 1)) rfl (xw_is (r := (20 + 4 * 1)) (by omega) (xc_sn (q := 1) (o := 0) (by omega) (by omega))), fun U hU hW => ⟨rfl, xPre.of hEE hP hK hE hS hU hW⟩⟩ rfl rfl hl.1 rfl (lv_room (Nat.le_of_ble_eq_true rfl)) dX7_readCond_119 ⟨Nat.le_of_ble_eq_true rfl, Nat.le_of_ble_eq_true rfl⟩) hS (fun q _ h => XA.le hS.1 q h) (XA.le hS.1) (fun x t H locs ht hvm hw hB _ _ hS => ?_)
            have hP := xB.at ht hB
            clear hB ht hvm
            obtain ⟨st51, sl52, so53⟩ := x
            obtain ⟨hGst51, hLGst51, hOst51, hw⟩ := hw
            dsimp only at hGst51 hLGst51 hOst51 hw
            have hL : LGq sl sl52 := hL.tr hLGst51
            have hO : OG ad [2, 4] so so53 := hO.tr hOst51 (by decide)
            have hP : va_P (dC, dI) vwCl (xw A C nb st51 sl52 so53) _ := hP
            have hG : XG [1, 2, 3, 4, 5, 6, 7, 12, 13, 14, 15] st st51 := hG.tr hGst51 (by decide)
            have hf54 := hw
            have hsk : SKs ad st so 1 → SKs ad st51 so53 1 := fun hh => hf54 (hsk hh) (fun h9 => absurd h9 (by omega))
            refine lv_iload hx hb dX7_readCond_122 (lv_at hl 2 rfl) ?_
            refine lv_if_eq (tgt := 146) hx hb dX7_readCond_124 (by decide) (fun cc => absurd cc (by decide)) (fun _ => ?_)
            refine lv_iload_n hx hb dX7_readCond_127 rfl (lv_at hl 6 rfl) ?_
            refine lv_iconst (v := 1) hx hb dX7_readCond_128 (by decide) ?_
            refine lv_icmp_ne (tgt := 146) hx hb dX7_readCond_129 (by decide) (fun cc => absurd (by decide) cc) (fun _ => ?_)
            refine lv_aload_n hx hb dX7_readCond_132 rfl (lv_at hl 4 rfl) ?_
            refine va_getN (host := "OffTheLead") (D := (dC, dI)) (ci := 9) (v := .int (st51 1 4)) (C := RX8) (T := TX8) (N := 15) hx hb hts ii_X7_readCond_X8 hown hK hP 1 (xw_is (r := 1) (by omega) (xc_fix (r := 1) (by omega))) rfl 4 (by decide) (va_Nw.use rfl (nf_X7_54 hEv)) (fun _ hh => hh) rfl dX7_readCond_133 ?_
            obtain ⟨z55, ez55⟩ : ∃ y : Int32, st51 1 4 = y := ⟨_, rfl⟩
            refine zz_top (v := z55) (by exact ez55) ?_
            refine lv_iconst (v := 3) hx hb dX7_readCond_136 (by decide) ?_
            refine lv_icmp_eq (tgt := 146) hx hb dX7_readCond_137 (by decide) (fun c19 => ?_) (fun c19 => ?_)
            · refine lv_iload hx hb dX7_readCond_146 (lv_at hl 2 rfl) ?_
              exact W.zret (v := 1) hx hb hr rfl (fun t ht hW => ⟨⟨1, (st51, sl52, so53), rfl, ⟨hG, hL, hO, Or.inl ⟨rfl, hsk⟩⟩, xB.of ht hP⟩, hS.F ht⟩) hS.2.2 dX7_readCond_148
            · refine lv_aload_n hx hb dX7_readCond_140 rfl (lv_at hl 4 rfl) ?_
              refine lv_iconst (v := 1) hx hb dX7_readCond_141 (by decide) ?_
              refine va_calli (va_runV (As := [.int 1]) (rest := []) ⟨hx, hb, hml, hown, hts⟩ (x_X8_refuse l dC dI ad E hEE A C nb _ hN st51 sl52 so53 1  hG.1) (cwV 1 hts gX7_readCond_X8_refuse rfl rfl rfl (by decide +kernel) ⟨Nat.le_of_ble_eq_true rfl, Nat.le_of_ble_eq_true rfl⟩) ⟨fun a U g mk q => ⟨q.1, xPre.blind hEE q.2⟩, va_recv hK hP (ci := 9) (q0 := 1) rfl (xw_is (r := 1) (by omega) (xc_fix (r := 1) (by omega))), fun U hU hW => ⟨rfl, xPre.of hEE hP hK hE hS hU hW⟩⟩ rfl rfl hl.1 rfl (lv_room (Nat.le_of_ble_eq_true rfl)) dX7_readCond_142 ⟨Nat.le_of_ble_eq_true rfl, Nat.le_of_ble_eq_true rfl⟩) hS (fun q _ h => XA.le hS.1 q h) (XA.le hS.1) (fun r56 x t H locs ht hvm hw hB _ _ hS => ?_)
              have hP := xB.at ht hB
              clear hB ht hvm
              obtain ⟨st57, sl58, so59⟩ := x
              obtain ⟨hGst57, hLGst57, hOst57, hw⟩ := hw
              dsimp only at hGst57 hLGst57 hOst57 hw
              have hL : LGq sl sl58 := hL.tr hLGst57
              replace hOst57 := hOst57.symm
              subst hOst57
              have hP : va_P (dC, dI) vwCl (xw A C nb st57 sl58 so53) _ := hP
              have hG : XG [1, 2, 3, 4, 5, 6, 7, 12, 13, 14, 15] st st57 := hG.tr hGst57 (by decide)
              obtain ⟨rfl, hf60⟩ := hw
              have hsk : SKs ad st so 1 → SKs ad st57 so53 1 := fun hh => SKs.mgs (hsk hh) (by omega) hGst57 (by decide) (by decide)
              exact W.zret (v := 0) hx hb hr rfl (fun t ht hW => ⟨⟨0, (st57, sl58, so53), rfl, ⟨hG, hL, hO, Or.inr (⟨rfl, by show ¬ st57 1 13 = 0; rw [hf60]; decide⟩)⟩, xB.of ht hP⟩, hS.F ht⟩) hS.2.2 dX7_readCond_145
        · have cg : k9 = 0 := by omega
          have hfa : ¬ st10 1 13 = 0 := hv20_1 cg
          have hl : lv_has ls 7 [(6, .int (nI k7)), (5, .int (nI k8)), (4, .int 0), (0, .ref (A (20 + 4 * 1))), (1, .ref (A 1)), (2, .ref (A (36 + 20 * 0))), (3, .int 1)] := by rw [cg] at hl; exact hl
          refine lv_iload hx hb dX7_readCond_108 (lv_at hl 1 rfl) ?_
          refine lv_if_eq (tgt := 122) hx hb dX7_readCond_110 (by decide) (fun c20 => ?_) (fun c20 => ?_)
          · have c20 : k8 = 0 := (nI_eq (a := k8) (b := 0) (by omega) (by omega)).mp c20
            refine lv_iload hx hb dX7_readCond_122 (lv_at hl 2 rfl) ?_
            refine lv_if_eq (tgt := 146) hx hb dX7_readCond_124 (by decide) (fun _ => ?_) (fun cc => absurd (by decide) cc)
            refine lv_iload hx hb dX7_readCond_146 (lv_at hl 2 rfl) ?_
            exact W.zret (v := 0) hx hb hr rfl (fun t ht hW => ⟨⟨0, (st10, sl11, so12), rfl, ⟨hG, hL, hO, Or.inr (⟨rfl, by show ¬ st10 1 13 = 0; exact hfa⟩)⟩, xB.of ht hP⟩, hS.F ht⟩) hS.2.2 dX7_readCond_148
          · have c20 : ¬ k8 = 0 := fun hh => c20 ((nI_eq (a := k8) (b := 0) (by omega) (by omega)).mpr hh)
            refine lv_aload_n hx hb dX7_readCond_113 rfl (lv_at hl 3 rfl) ?_
            refine va_gets (v := .ref (ad 13)) hx hb (EV.word hEv (i := 13) (by decide)) hS hown (hts _ mm_X7_readCond_2) (fun _ hh => hh) dX7_readCond_114 ?_
            refine lv_iconst (v := 0) hx hb dX7_readCond_117 (by decide) ?_
            refine lv_iconst (v := 0) hx hb dX7_readCond_118 (by decide) ?_
            refine va_callv (va_runV (As := [.ref (ad 13), .int 0, .int 0]) (rest := []) ⟨hx, hb, hml, hown, hts⟩ (x_X7_add l dC dI ad E hEE A C nb _ hN st10 sl11 so12 13 0 0 (by omega) hG.1 hO.1) (cwV 3 hts gX7_readCond_X7_add rfl rfl rfl (by decide +kernel) ⟨Nat.le_of_ble_eq_true rfl, Nat.le_of_ble_eq_true rfl⟩) ⟨fun a U g mk q => ⟨q.1, xPre.blind hEE q.2⟩, va_recv hK hP (ci := 8) (q0 := (20 + 4 * 1)) rfl (xw_is (r := (20 + 4 * 1)) (by omega) (xc_sn (q := 1) (o := 0) (by omega) (by omega))), fun U hU hW => ⟨rfl, xPre.of hEE hP hK hE hS hU hW⟩⟩ rfl rfl hl.1 rfl (lv_room (Nat.le_of_ble_eq_true rfl)) dX7_readCond_119 ⟨Nat.le_of_ble_eq_true rfl, Nat.le_of_ble_eq_true rfl⟩) hS (fun q _ h => XA.le hS.1 q h) (XA.le hS.1) (fun x t H locs ht hvm hw hB _ _ hS => ?_)
            have hP := xB.at ht hB
            clear hB ht hvm
            obtain ⟨st62, sl63, so64⟩ := x
            obtain ⟨hGst62, hLGst62, hOst62, hw⟩ := hw
            dsimp only at hGst62 hLGst62 hOst62 hw
            have hL : LGq sl sl63 := hL.tr hLGst62
            have hO : OG ad [2, 4] so so64 := hO.tr hOst62 (by decide)
            have hP : va_P (dC, dI) vwCl (xw A C nb st62 sl63 so64) _ := hP
            have hG : XG [1, 2, 3, 4, 5, 6, 7, 12, 13, 14, 15] st st62 := hG.tr hGst62 (by decide)
            have hf65 := hw
            refine lv_iload hx hb dX7_readCond_122 (lv_at hl 2 rfl) ?_
            refine lv_if_eq (tgt := 146) hx hb dX7_readCond_124 (by decide) (fun _ => ?_) (fun cc => absurd (by decide) cc)
            refine lv_iload hx hb dX7_readCond_146 (lv_at hl 2 rfl) ?_
            exact W.zret (v := 0) hx hb hr rfl (fun t ht hW => ⟨⟨0, (st62, sl63, so64), rfl, ⟨hG, hL, hO, Or.inr (⟨rfl, by show ¬ st62 1 13 = 0; rw [hGst62.2 1 13 (by rw [(by decide : xcl 1 13 = 10)]; decide)]; exact hfa⟩)⟩, xB.of ht hP⟩, hS.F ht⟩) hS.2.2 dX7_readCond_148
      · have c12 : ¬ k9 = 0 := fun hh => c12 ((nI_eq (a := k9) (b := 0) (by omega) (by omega)).mpr hh)
        have hsk : SKs ad st so 1 → SKs ad st10 so12 1 := hv19_0 (by omega)
        refine lv_aload_n hx hb dX7_readCond_27 rfl (lv_at hl 4 rfl) ?_
        refine va_getN (host := "OffTheLead") (D := (dC, dI)) (ci := 9) (v := va_rf (so12 1 7)) (C := RX8) (T := TX8) (N := 15) hx hb hts ii_X7_readCond_X8 hown hK hP 1 (xw_is (r := 1) (by omega) (xc_fix (r := 1) (by omega))) rfl 7 (by decide) (va_Nw.use rfl (nf_X7_35 hEv)) (fun _ hh => hh) rfl dX7_readCond_28 ?_
        obtain ⟨j66, hj66, ej66⟩ := hO.1.2
        refine zz_topq (r := some (ad j66)) (by rw [ej66]) ?_
        refine va_gets (v := .ref (ad 14)) hx hb (EV.word hEv (i := 14) (by decide)) hS hown (hts _ mm_X7_readCond_1) (fun _ hh => hh) dX7_readCond_31 ?_
        refine lv_acmp_ne (rx := (some (ad j66))) (ry := (some (ad 14))) (tgt := 62) hx hb dX7_readCond_34 (by decide) (fun c23 => ?_) (fun c23 => ?_)
        · have c23 : ¬ j66 = 14 := fun hh => c23 ((EV.eqw hEv (i := j66) (j := 14) (by omega) (by omega)).mpr hh)
          refine lv_aload_n hx hb dX7_readCond_62 rfl (lv_at hl 4 rfl) ?_
          refine va_getN (host := "OffTheLead") (D := (dC, dI)) (ci := 9) (v := va_rf (so12 1 7)) (C := RX8) (T := TX8) (N := 15) hx hb hts ii_X7_readCond_X8 hown hK hP 1 (xw_is (r := 1) (by omega) (xc_fix (r := 1) (by omega))) rfl 7 (by decide) (va_Nw.use rfl (nf_X7_35 hEv)) (fun _ hh => hh) rfl dX7_readCond_63 ?_
          refine zz_topq (r := some (ad j66)) (by rw [ej66]) ?_
          refine va_gets (v := .ref (ad 13)) hx hb (EV.word hEv (i := 13) (by decide)) hS hown (hts _ mm_X7_readCond_2) (fun _ hh => hh) dX7_readCond_66 ?_
          refine lv_acmp_ne (rx := (some (ad j66))) (ry := (some (ad 13))) (tgt := 108) hx hb dX7_readCond_69 (by decide) (fun c24 => ?_) (fun c24 => ?_)
          · have c24 : ¬ j66 = 13 := fun hh => c24 ((EV.eqw hEv (i := j66) (j := 13) (by omega) (by omega)).mpr hh)
            by_cases cg : k9 = 1
            · have hsk : SKs ad st so 1 → SKs ad st10 so12 1 := hv19_0 cg
              have hl : lv_has ls 7 [(6, .int (nI k7)), (5, .int (nI k8)), (4, .int 1), (0, .ref (A (20 + 4 * 1))), (1, .ref (A 1)), (2, .ref (A (36 + 20 * 0))), (3, .int 1)] := by rw [cg] at hl; exact hl
              refine lv_iload hx hb dX7_readCond_108 (lv_at hl 1 rfl) ?_
              refine lv_if_eq (tgt := 122) hx hb dX7_readCond_110 (by decide) (fun c25 => ?_) (fun c25 => ?_)
              · have c25 : k8 = 0 := (nI_eq (a := k8) (b := 0) (by omega) (by omega)).mp c25
                refine lv_iload hx hb dX7_readCond_122 (lv_at hl 2 rfl) ?_
                refine lv_if_eq (tgt := 146) hx hb dX7_readCond_124 (by decide) (fun cc => absurd cc (by decide)) (fun _ => ?_)
                refine lv_iload_n hx hb dX7_readCond_127 rfl (lv_at hl 6 rfl) ?_
                refine lv_iconst (v := 1) hx hb dX7_readCond_128 (by decide) ?_
                refine lv_icmp_ne (tgt := 146) hx hb dX7_readCond_129 (by decide) (fun cc => absurd (by decide) cc) (fun _ => ?_)
                refine lv_aload_n hx hb dX7_readCond_132 rfl (lv_at hl 4 rfl) ?_
                refine va_getN (host := "OffTheLead") (D := (dC, dI)) (ci := 9) (v := .int (st10 1 4)) (C := RX8) (T := TX8) (N := 15) hx hb hts ii_X7_readCond_X8 hown hK hP 1 (xw_is (r := 1) (by omega) (xc_fix (r := 1) (by omega))) rfl 4 (by decide) (va_Nw.use rfl (nf_X7_54 hEv)) (fun _ hh => hh) rfl dX7_readCond_133 ?_
                obtain ⟨z67, ez67⟩ : ∃ y : Int32, st10 1 4 = y := ⟨_, rfl⟩
                refine zz_top (v := z67) (by exact ez67) ?_
                refine lv_iconst (v := 3) hx hb dX7_readCond_136 (by decide) ?_
                refine lv_icmp_eq (tgt := 146) hx hb dX7_readCond_137 (by decide) (fun c28 => ?_) (fun c28 => ?_)
                · refine lv_iload hx hb dX7_readCond_146 (lv_at hl 2 rfl) ?_
                  exact W.zret (v := 1) hx hb hr rfl (fun t ht hW => ⟨⟨1, (st10, sl11, so12), rfl, ⟨hG, hL, hO, Or.inl ⟨rfl, hsk⟩⟩, xB.of ht hP⟩, hS.F ht⟩) hS.2.2 dX7_readCond_148
                · refine lv_aload_n hx hb dX7_readCond_140 rfl (lv_at hl 4 rfl) ?_
                  refine lv_iconst (v := 1) hx hb dX7_readCond_141 (by decide) ?_
                  refine va_calli (va_runV (As := [.int 1]) (rest := []) ⟨hx, hb, hml, hown, hts⟩ (x_X8_refuse l dC dI ad E hEE A C nb _ hN st10 sl11 so12 1  hG.1) (cwV 1 hts gX7_readCond_X8_refuse rfl rfl rfl (by decide +kernel) ⟨Nat.le_of_ble_eq_true rfl, Nat.le_of_ble_eq_true rfl⟩) ⟨fun a U g mk q => ⟨q.1, xPre.blind hEE q.2⟩, va_recv hK hP (ci := 9) (q0 := 1) rfl (xw_is (r := 1) (by omega) (xc_fix (r := 1) (by omega))), fun U hU hW => ⟨rfl, xPre.of hEE hP hK hE hS hU hW⟩⟩ rfl rfl hl.1 rfl (lv_room (Nat.le_of_ble_eq_true rfl)) dX7_readCond_142 ⟨Nat.le_of_ble_eq_true rfl, Nat.le_of_ble_eq_true rfl⟩) hS (fun q _ h => XA.le hS.1 q h) (XA.le hS.1) (fun r68 x t H locs ht hvm hw hB _ _ hS => ?_)
                  have hP := xB.at ht hB
                  clear hB ht hvm
                  obtain ⟨st69, sl70, so71⟩ := x
                  obtain ⟨hGst69, hLGst69, hOst69, hw⟩ := hw
                  dsimp only at hGst69 hLGst69 hOst69 hw
                  have hL : LGq sl sl70 := hL.tr hLGst69
                  replace hOst69 := hOst69.symm
                  subst hOst69
                  have hP : va_P (dC, dI) vwCl (xw A C nb st69 sl70 so12) _ := hP
                  have hG : XG [1, 2, 3, 4, 5, 6, 7, 12, 13, 14, 15] st st69 := hG.tr hGst69 (by decide)
                  obtain ⟨rfl, hf72⟩ := hw
                  have hsk : SKs ad st so 1 → SKs ad st69 so12 1 := fun hh => SKs.mgs (hsk hh) (by omega) hGst69 (by decide) (by decide)
                  exact W.zret (v := 0) hx hb hr rfl (fun t ht hW => ⟨⟨0, (st69, sl70, so12), rfl, ⟨hG, hL, hO, Or.inr (⟨rfl, by show ¬ st69 1 13 = 0; rw [hf72]; decide⟩)⟩, xB.of ht hP⟩, hS.F ht⟩) hS.2.2 dX7_readCond_145
              · have c25 : ¬ k8 = 0 := fun hh => c25 ((nI_eq (a := k8) (b := 0) (by omega) (by omega)).mpr hh)
                refine lv_aload_n hx hb dX7_readCond_113 rfl (lv_at hl 3 rfl) ?_
                refine va_gets (v := .ref (ad 13)) hx hb (EV.word hEv (i := 13) (by decide)) hS hown (hts _ mm_X7_readCond_2) (fun _ hh => hh) dX7_readCond_114 ?_
                refine lv_iconst (v := 0) hx hb dX7_readCond_117 (by decide) ?_
                refine lv_iconst (v := 0) hx hb dX7_readCond_118 (by decide) ?_
                refine va_callv (va_runV (As := [.ref (ad 13), .int 0, .int 0]) (rest := []) ⟨hx, hb, hml, hown, hts⟩ (x_X7_add l dC dI ad E hEE A C nb _ hN st10 sl11 so12 13 0 0 (by omega) hG.1 hO.1) (cwV 3 hts gX7_readCond_X7_add rfl rfl rfl (by decide +kernel) ⟨Nat.le_of_ble_eq_true rfl, Nat.le_of_ble_eq_true rfl⟩) ⟨fun a U g mk q => ⟨q.1, xPre.blind hEE q.2⟩, va_recv hK hP (ci := 8) (q0 := (20 + 4 * 1)) rfl (xw_is (r := (20 + 4 * 1)) (by omega) (xc_sn (q := 1) (o := 0) (by omega) (by omega))), fun U hU hW => ⟨rfl, xPre.of hEE hP hK hE hS hU hW⟩⟩ rfl rfl hl.1 rfl (lv_room (Nat.le_of_ble_eq_true rfl)) dX7_readCond_119 ⟨Nat.le_of_ble_eq_true rfl, Nat.le_of_ble_eq_true rfl⟩) hS (fun q _ h => XA.le hS.1 q h) (XA.le hS.1) (fun x t H locs ht hvm hw hB _ _ hS => ?_)
                have hP := xB.at ht hB
                clear hB ht hvm
                obtain ⟨st74, sl75, so76⟩ := x
                obtain ⟨hGst74, hLGst74, hOst74, hw⟩ := hw
                dsimp only at hGst74 hLGst74 hOst74 hw
                have hL : LGq sl sl75 := hL.tr hLGst74
                have hO : OG ad [2, 4] so so76 := hO.tr hOst74 (by decide)
                have hP : va_P (dC, dI) vwCl (xw A C nb st74 sl75 so76) _ := hP
                have hG : XG [1, 2, 3, 4, 5, 6, 7, 12, 13, 14, 15] st st74 := hG.tr hGst74 (by decide)
                have hf77 := hw
                have hsk : SKs ad st so 1 → SKs ad st74 so76 1 := fun hh => hf77 (hsk hh) (fun h9 => absurd h9 (by omega))
                refine lv_iload hx hb dX7_readCond_122 (lv_at hl 2 rfl) ?_
                refine lv_if_eq (tgt := 146) hx hb dX7_readCond_124 (by decide) (fun cc => absurd cc (by decide)) (fun _ => ?_)
                refine lv_iload_n hx hb dX7_readCond_127 rfl (lv_at hl 6 rfl) ?_
                refine lv_iconst (v := 1) hx hb dX7_readCond_128 (by decide) ?_
                refine lv_icmp_ne (tgt := 146) hx hb dX7_readCond_129 (by decide) (fun cc => absurd (by decide) cc) (fun _ => ?_)
                refine lv_aload_n hx hb dX7_readCond_132 rfl (lv_at hl 4 rfl) ?_
                refine va_getN (host := "OffTheLead") (D := (dC, dI)) (ci := 9) (v := .int (st74 1 4)) (C := RX8) (T := TX8) (N := 15) hx hb hts ii_X7_readCond_X8 hown hK hP 1 (xw_is (r := 1) (by omega) (xc_fix (r := 1) (by omega))) rfl 4 (by decide) (va_Nw.use rfl (nf_X7_54 hEv)) (fun _ hh => hh) rfl dX7_readCond_133 ?_
                obtain ⟨z78, ez78⟩ : ∃ y : Int32, st74 1 4 = y := ⟨_, rfl⟩
                refine zz_top (v := z78) (by exact ez78) ?_
                refine lv_iconst (v := 3) hx hb dX7_readCond_136 (by decide) ?_
                refine lv_icmp_eq (tgt := 146) hx hb dX7_readCond_137 (by decide) (fun c31 => ?_) (fun c31 => ?_)
                · refine lv_iload hx hb dX7_readCond_146 (lv_at hl 2 rfl) ?_
                  exact W.zret (v := 1) hx hb hr rfl (fun t ht hW => ⟨⟨1, (st74, sl75, so76), rfl, ⟨hG, hL, hO, Or.inl ⟨rfl, hsk⟩⟩, xB.of ht hP⟩, hS.F ht⟩) hS.2.2 dX7_readCond_148
                · refine lv_aload_n hx hb dX7_readCond_140 rfl (lv_at hl 4 rfl) ?_
                  refine lv_iconst (v := 1) hx hb dX7_readCond_141 (by decide) ?_
                  refine va_calli (va_runV (As := [.int 1]) (rest := []) ⟨hx, hb, hml, hown, hts⟩ (x_X8_refuse l dC dI ad E hEE A C nb _ hN st74 sl75 so76 1  hG.1) (cwV 1 hts gX7_readCond_X8_refuse rfl rfl rfl (by decide +kernel) ⟨Nat.le_of_ble_eq_true rfl, Nat.le_of_ble_eq_true rfl⟩) ⟨fun a U g mk q => ⟨q.1, xPre.blind hEE q.2⟩, va_recv hK hP (ci := 9) (q0 := 1) rfl (xw_is (r := 1) (by omega) (xc_fix (r := 1) (by omega))), fun U hU hW => ⟨rfl, xPre.of hEE hP hK hE hS hU hW⟩⟩ rfl rfl hl.1 rfl (lv_room (Nat.le_of_ble_eq_true rfl)) dX7_readCond_142 ⟨Nat.le_of_ble_eq_true rfl, Nat.le_of_ble_eq_true rfl⟩) hS (fun q _ h => XA.le hS.1 q h) (XA.le hS.1) (fun r79 x t H locs ht hvm hw hB _ _ hS => ?_)
                  have hP := xB.at ht hB
                  clear hB ht hvm
                  obtain ⟨st80, sl81, so82⟩ := x
                  obtain ⟨hGst80, hLGst80, hOst80, hw⟩ := hw
                  dsimp only at hGst80 hLGst80 hOst80 hw
                  have hL : LGq sl sl81 := hL.tr hLGst80
                  replace hOst80 := hOst80.symm
                  subst hOst80
                  have hP : va_P (dC, dI) vwCl (xw A C nb st80 sl81 so76) _ := hP
                  have hG : XG [1, 2, 3, 4, 5, 6, 7, 12, 13, 14, 15] st st80 := hG.tr hGst80 (by decide)
                  obtain ⟨rfl, hf83⟩ := hw
                  have hsk : SKs ad st so 1 → SKs ad st80 so76 1 := fun hh => SKs.mgs (hsk hh) (by omega) hGst80 (by decide) (by decide)
                  exact W.zret (v := 0) hx hb hr rfl (fun t ht hW => ⟨⟨0, (st80, sl81, so76), rfl, ⟨hG, hL, hO, Or.inr (⟨rfl, by show ¬ st80 1 13 = 0; rw [hf83]; decide⟩)⟩, xB.of ht hP⟩, hS.F ht⟩) hS.2.2 dX7_readCond_145
            · have cg : k9 = 0 := by omega
              have hfa : ¬ st10 1 13 = 0 := hv20_1 cg
              have hl : lv_has ls 7 [(6, .int (nI k7)), (5, .int (nI k8)), (4, .int 0), (0, .ref (A (20 + 4 * 1))), (1, .ref (A 1)), (2, .ref (A (36 + 20 * 0))), (3, .int 1)] := by rw [cg] at hl; exact hl
              refine lv_iload hx hb dX7_readCond_108 (lv_at hl 1 rfl) ?_
              refine lv_if_eq (tgt := 122) hx hb dX7_readCond_110 (by decide) (fun c32 => ?_) (fun c32 => ?_)
              · have c32 : k8 = 0 := (nI_eq (a := k8) (b := 0) (by omega) (by omega)).mp c32
                refine lv_iload hx hb dX7_readCond_122 (lv_at hl 2 rfl) ?_
                refine lv_if_eq (tgt := 146) hx hb dX7_readCond_124 (by decide) (fun _ => ?_) (fun cc => absurd (by decide) cc)
                refine lv_iload hx hb dX7_readCond_146 (lv_at hl 2 rfl) ?_
                exact W.zret (v := 0) hx hb hr rfl (fun t ht hW => ⟨⟨0, (st10, sl11, so12), rfl, ⟨hG, hL, hO, Or.inr (⟨rfl, by show ¬ st10 1 13 = 0; exact hfa⟩)⟩, xB.of ht hP⟩, hS.F ht⟩) hS.2.2 dX7_readCond_148
              · have c32 : ¬ k8 = 0 := fun hh => c32 ((nI_eq (a := k8) (b := 0) (by omega) (by omega)).mpr hh)
                refine lv_aload_n hx hb dX7_readCond_113 rfl (lv_at hl 3 rfl) ?_
                refine va_gets (v := .ref (ad 13)) hx hb (EV.word hEv (i := 13) (by decide)) hS hown (hts _ mm_X7_readCond_2) (fun _ hh => hh) dX7_readCond_114 ?_
                refine lv_iconst (v := 0) hx hb dX7_readCond_117 (by decide) ?_
                refine lv_iconst (v := 0) hx hb dX7_readCond_118 (by decide) ?_
                refine va_callv (va_runV (As := [.ref (ad 13), .int 0, .int 0]) (rest := []) ⟨hx, hb, hml, hown, hts⟩ (x_X7_add l dC dI ad E hEE A C nb _ hN st10 sl11 so12 13 0 0 (by omega) hG.1 hO.1) (cwV 3 hts gX7_readCond_X7_add rfl rfl rfl (by decide +kernel) ⟨Nat.le_of_ble_eq_true rfl, Nat.le_of_ble_eq_true rfl⟩) ⟨fun a U g mk q => ⟨q.1, xPre.blind hEE q.2⟩, va_recv hK hP (ci := 8) (q0 := (20 + 4 * 1)) rfl (xw_is (r := (20 + 4 * 1)) (by omega) (xc_sn (q := 1) (o := 0) (by omega) (by omega))), fun U hU hW => ⟨rfl, xPre.of hEE hP hK hE hS hU hW⟩⟩ rfl rfl hl.1 rfl (lv_room (Nat.le_of_ble_eq_true rfl)) dX7_readCond_119 ⟨Nat.le_of_ble_eq_true rfl, Nat.le_of_ble_eq_true rfl⟩) hS (fun q _ h => XA.le hS.1 q h) (XA.le hS.1) (fun x t H locs ht hvm hw hB _ _ hS => ?_)
                have hP := xB.at ht hB
                clear hB ht hvm
                obtain ⟨st85, sl86, so87⟩ := x
                obtain ⟨hGst85, hLGst85, hOst85, hw⟩ := hw
                dsimp only at hGst85 hLGst85 hOst85 hw
                have hL : LGq sl sl86 := hL.tr hLGst85
                have hO : OG ad [2, 4] so so87 := hO.tr hOst85 (by decide)
                have hP : va_P (dC, dI) vwCl (xw A C nb st85 sl86 so87) _ := hP
                have hG : XG [1, 2, 3, 4, 5, 6, 7, 12, 13, 14, 15] st st85 := hG.tr hGst85 (by decide)
                have hf88 := hw
                refine lv_iload hx hb dX7_readCond_122 (lv_at hl 2 rfl) ?_
                refine lv_if_eq (tgt := 146) hx hb dX7_readCond_124 (by decide) (fun _ => ?_) (fun cc => absurd (by decide) cc)
                refine lv_iload hx hb dX7_readCond_146 (lv_at hl 2 rfl) ?_
                exact W.zret (v := 0) hx hb hr rfl (fun t ht hW => ⟨⟨0, (st85, sl86, so87), rfl, ⟨hG, hL, hO, Or.inr (⟨rfl, by show ¬ st85 1 13 = 0; rw [hGst85.2 1 13 (by rw [(by decide : xcl 1 13 = 10)]; decide)]; exact hfa⟩)⟩, xB.of ht hP⟩, hS.F ht⟩) hS.2.2 dX7_readCond_148
          · have c24 : j66 = 13 := (EV.eqw hEv (i := j66) (j := 13) (by omega) (by omega)).mp c24
            refine lv_iload hx hb dX7_readCond_72 (lv_at hl 1 rfl) ?_
            refine lv_if_eq (tgt := 86) hx hb dX7_readCond_74 (by decide) (fun c35 => ?_) (fun c35 => ?_)
            · have c35 : k8 = 0 := (nI_eq (a := k8) (b := 0) (by omega) (by omega)).mp c35
              refine lv_iconst (v := 1) hx hb dX7_readCond_86 (by decide) ?_
              refine lv_istore (lv' := [(5, .int 1), (6, .int (nI k7)), (4, .int (nI k9)), (0, .ref (A (20 + 4 * 1))), (1, .ref (A 1)), (2, .ref (A (36 + 20 * 0))), (3, .int 1)]) hx hb dX7_readCond_87 hl (by decide) rfl (fun ls hl => ?_)
              refine lv_aload_n hx hb dX7_readCond_89 rfl (lv_at hl 4 rfl) ?_
              refine va_callv (va_runV (As := []) (rest := []) ⟨hx, hb, hml, hown, hts⟩ (x_X8_step l dC dI ad E hEE A C nb _ hN st10 sl11 so12  hG.1 hO.1) (cwV 0 hts gX7_readCond_X8_step rfl rfl rfl (by decide +kernel) ⟨Nat.le_of_ble_eq_true rfl, Nat.le_of_ble_eq_true rfl⟩) ⟨fun a U g mk q => ⟨q.1, xPre.blind hEE q.2⟩, va_recv hK hP (ci := 9) (q0 := 1) rfl (xw_is (r := 1) (by omega) (xc_fix (r := 1) (by omega))), fun U hU hW => ⟨rfl, xPre.of hEE hP hK hE hS hU hW⟩⟩ rfl rfl hl.1 rfl (lv_room (Nat.le_of_ble_eq_true rfl)) dX7_readCond_90 ⟨Nat.le_of_ble_eq_true rfl, Nat.le_of_ble_eq_true rfl⟩) hS (fun q _ h => XA.le hS.1 q h) (XA.le hS.1) (fun x t H locs ht hvm hw hB _ _ hS => ?_)
              have hP := xB.at ht hB
              clear hB ht hvm
              obtain ⟨st90, sl91, so92⟩ := x
              obtain ⟨hGst90, hLGst90, hOst90, hw⟩ := hw
              dsimp only at hGst90 hLGst90 hOst90 hw
              have hL : LGq sl sl91 := hL.tr hLGst90
              have hO : OG ad [2, 4] so so92 := hO.tr hOst90 (by decide)
              have hP : va_P (dC, dI) vwCl (xw A C nb st90 sl91 so92) _ := hP
              have hG : XG [1, 2, 3, 4, 5, 6, 7, 12, 13, 14, 15] st st90 := hG.tr hGst90 (by decide)
              clear hw
              have hsk : SKs ad st so 1 → SKs ad st90 so92 1 := fun hh => SKs.mg (hsk hh) (by omega) hGst90 hOst90 (by decide) (by decide) (by decide)
              refine lv_aload_n hx hb dX7_readCond_93 rfl (lv_at hl 3 rfl) ?_
              refine lv_aload_n hx hb dX7_readCond_94 rfl (lv_at hl 4 rfl) ?_
              refine lv_aload_n hx hb dX7_readCond_95 rfl (lv_at hl 5 rfl) ?_
              refine lv_iload_n hx hb dX7_readCond_96 rfl (lv_at hl 6 rfl) ?_
              refine va_calli (va_runV (As := [.ref (A 1), .ref (A (36 + 20 * 0)), .int 1]) (rest := []) ⟨hx, hb, hml, hown, hts⟩ (x_readOne_1 l dC dI ad E hEE A C nb _ hN st90 sl91 so92  hG.1 hO.1) (cwV 3 hts gX7_readCond_X7_readOne rfl rfl rfl (by decide +kernel) ⟨Nat.le_of_ble_eq_true rfl, Nat.le_of_ble_eq_true rfl⟩) ⟨fun a U g mk q => ⟨q.1, xPre.blind hEE q.2⟩, va_recv hK hP (ci := 8) (q0 := (20 + 4 * 1)) rfl (xw_is (r := (20 + 4 * 1)) (by omega) (xc_sn (q := 1) (o := 0) (by omega) (by omega))), fun U hU hW => ⟨rfl, xPre.of hEE hP hK hE hS hU hW⟩⟩ rfl rfl hl.1 rfl (lv_room (Nat.le_of_ble_eq_true rfl)) dX7_readCond_97 ⟨Nat.le_of_ble_eq_true rfl, Nat.le_of_ble_eq_true rfl⟩) hS (fun q _ h => XA.le hS.1 q h) (XA.le hS.1) (fun r93 x t H locs ht hvm hw hB _ _ hS => ?_)
              have hP := xB.at ht hB
              clear hB ht hvm
              obtain ⟨st94, sl95, so96⟩ := x
              obtain ⟨hGst94, hLGst94, hOst94, hw⟩ := hw
              dsimp only at hGst94 hLGst94 hOst94 hw
              have hL : LGq sl sl95 := hL.tr hLGst94
              have hO : OG ad [2, 4] so so96 := hO.tr hOst94 (by decide)
              have hP : va_P (dC, dI) vwCl (xw A C nb st94 sl95 so96) _ := hP
              have hG : XG [1, 2, 3, 4, 5, 6, 7, 12, 13, 14, 15] st st94 := hG.tr hGst94 (by decide)
              rcases hw with ⟨rfl, hf97⟩ | ⟨rfl, hf98⟩
              · have hsk : SKs ad st so 1 → SKs ad st94 so96 1 := fun hh => hf97 (hsk hh)
                refine lv_istore (lv' := [(4, .int 1), (5, .int 1), (6, .int (nI k7)), (0, .ref (A (20 + 4 * 1))), (1, .ref (A 1)), (2, .ref (A (36 + 20 * 0))), (3, .int 1)]) hx hb dX7_readCond_100 hl (by decide) rfl (fun ls hl => ?_)
                refine lv_iinc (v := (nI (k7 + 1))) (lv' := [(6, .int (nI (k7 + 1))), (4, .int 1), (5, .int 1), (0, .ref (A (20 + 4 * 1))), (1, .ref (A 1)), (2, .ref (A (36 + 20 * 0))), (3, .int 1)]) hx hb dX7_readCond_102 hl (k := 2) rfl (nI_add k7 1) (by decide) rfl (fun ls hl => ?_)
                refine lv_goto (tgt := 15) hx hb dX7_readCond_105 (by decide) ?_
                exact ih21 (21 - (k7 + 1)) _ _ _ _ (by omega) ⟨(k7 + 1), 1, 1, st94, sl95, so96, rfl, by omega, by omega, by omega, by omega, by omega, by omega, fun _ => hsk, fun h9 => absurd h9 (by omega), hP, hG, hO, hL, hS, lv_sub hl [0, 2, 1, 3, 4, 5, 6] rfl, rfl⟩
              · refine lv_istore (lv' := [(4, .int 0), (5, .int 1), (6, .int (nI k7)), (0, .ref (A (20 + 4 * 1))), (1, .ref (A 1)), (2, .ref (A (36 + 20 * 0))), (3, .int 1)]) hx hb dX7_readCond_100 hl (by decide) rfl (fun ls hl => ?_)
                refine lv_iinc (v := (nI (k7 + 1))) (lv' := [(6, .int (nI (k7 + 1))), (4, .int 0), (5, .int 1), (0, .ref (A (20 + 4 * 1))), (1, .ref (A 1)), (2, .ref (A (36 + 20 * 0))), (3, .int 1)]) hx hb dX7_readCond_102 hl (k := 2) rfl (nI_add k7 1) (by decide) rfl (fun ls hl => ?_)
                refine lv_goto (tgt := 15) hx hb dX7_readCond_105 (by decide) ?_
                exact ih21 (21 - (k7 + 1)) _ _ _ _ (by omega) ⟨(k7 + 1), 1, 0, st94, sl95, so96, rfl, by omega, by omega, by omega, by omega, by omega, by omega, fun h9 => absurd h9 (by omega), fun _ => by show ¬ st94 1 13 = 0; exact hf98, hP, hG, hO, hL, hS, lv_sub hl [0, 2, 1, 3, 4, 5, 6] rfl, rfl⟩
            · have c35 : ¬ k8 = 0 := fun hh => c35 ((nI_eq (a := k8) (b := 0) (by omega) (by omega)).mpr hh)
              refine lv_aload_n hx hb dX7_readCond_77 rfl (lv_at hl 3 rfl) ?_
              refine va_gets (v := .ref (ad 13)) hx hb (EV.word hEv (i := 13) (by decide)) hS hown (hts _ mm_X7_readCond_2) (fun _ hh => hh) dX7_readCond_78 ?_
              refine lv_iconst (v := 0) hx hb dX7_readCond_81 (by decide) ?_
              refine lv_iconst (v := 0) hx hb dX7_readCond_82 (by decide) ?_
              refine va_callv (va_runV (As := [.ref (ad 13), .int 0, .int 0]) (rest := []) ⟨hx, hb, hml, hown, hts⟩ (x_X7_add l dC dI ad E hEE A C nb _ hN st10 sl11 so12 13 0 0 (by omega) hG.1 hO.1) (cwV 3 hts gX7_readCond_X7_add rfl rfl rfl (by decide +kernel) ⟨Nat.le_of_ble_eq_true rfl, Nat.le_of_ble_eq_true rfl⟩) ⟨fun a U g mk q => ⟨q.1, xPre.blind hEE q.2⟩, va_recv hK hP (ci := 8) (q0 := (20 + 4 * 1)) rfl (xw_is (r := (20 + 4 * 1)) (by omega) (xc_sn (q := 1) (o := 0) (by omega) (by omega))), fun U hU hW => ⟨rfl, xPre.of hEE hP hK hE hS hU hW⟩⟩ rfl rfl hl.1 rfl (lv_room (Nat.le_of_ble_eq_true rfl)) dX7_readCond_83 ⟨Nat.le_of_ble_eq_true rfl, Nat.le_of_ble_eq_true rfl⟩) hS (fun q _ h => XA.le hS.1 q h) (XA.le hS.1) (fun x t H locs ht hvm hw hB _ _ hS => ?_)
              have hP := xB.at ht hB
              clear hB ht hvm
              obtain ⟨st100, sl101, so102⟩ := x
              obtain ⟨hGst100, hLGst100, hOst100, hw⟩ := hw
              dsimp only at hGst100 hLGst100 hOst100 hw
              have hL : LGq sl sl101 := hL.tr hLGst100
              have hO : OG ad [2, 4] so so102 := hO.tr hOst100 (by decide)
              have hP : va_P (dC, dI) vwCl (xw A C nb st100 sl101 so102) _ := hP
              have hG : XG [1, 2, 3, 4, 5, 6, 7, 12, 13, 14, 15] st st100 := hG.tr hGst100 (by decide)
              have hf103 := hw
              have hsk : SKs ad st so 1 → SKs ad st100 so102 1 := fun hh => hf103 (hsk hh) (fun h9 => absurd h9 (by omega))
              refine lv_iconst (v := 1) hx hb dX7_readCond_86 (by decide) ?_
              refine lv_istore (lv' := [(5, .int 1), (6, .int (nI k7)), (4, .int (nI k9)), (0, .ref (A (20 + 4 * 1))), (1, .ref (A 1)), (2, .ref (A (36 + 20 * 0))), (3, .int 1)]) hx hb dX7_readCond_87 hl (by decide) rfl (fun ls hl => ?_)
              refine lv_aload_n hx hb dX7_readCond_89 rfl (lv_at hl 4 rfl) ?_
              refine va_callv (va_runV (As := []) (rest := []) ⟨hx, hb, hml, hown, hts⟩ (x_X8_step l dC dI ad E hEE A C nb _ hN st100 sl101 so102  hG.1 hO.1) (cwV 0 hts gX7_readCond_X8_step rfl rfl rfl (by decide +kernel) ⟨Nat.le_of_ble_eq_true rfl, Nat.le_of_ble_eq_true rfl⟩) ⟨fun a U g mk q => ⟨q.1, xPre.blind hEE q.2⟩, va_recv hK hP (ci := 9) (q0 := 1) rfl (xw_is (r := 1) (by omega) (xc_fix (r := 1) (by omega))), fun U hU hW => ⟨rfl, xPre.of hEE hP hK hE hS hU hW⟩⟩ rfl rfl hl.1 rfl (lv_room (Nat.le_of_ble_eq_true rfl)) dX7_readCond_90 ⟨Nat.le_of_ble_eq_true rfl, Nat.le_of_ble_eq_true rfl⟩) hS (fun q _ h => XA.le hS.1 q h) (XA.le hS.1) (fun x t H locs ht hvm hw hB _ _ hS => ?_)
              have hP := xB.at ht hB
              clear hB ht hvm
              obtain ⟨st105, sl106, so107⟩ := x
              obtain ⟨hGst105, hLGst105, hOst105, hw⟩ := hw
              dsimp only at hGst105 hLGst105 hOst105 hw
              have hL : LGq sl sl106 := hL.tr hLGst105
              have hO : OG ad [2, 4] so so107 := hO.tr hOst105 (by decide)
              have hP : va_P (dC, dI) vwCl (xw A C nb st105 sl106 so107) _ := hP
              have hG : XG [1, 2, 3, 4, 5, 6, 7, 12, 13, 14, 15] st st105 := hG.tr hGst105 (by decide)
              clear hw
              have hsk : SKs ad st so 1 → SKs ad st105 so107 1 := fun hh => SKs.mg (hsk hh) (by omega) hGst105 hOst105 (by decide) (by decide) (by decide)
              refine lv_aload_n hx hb dX7_readCond_93 rfl (lv_at hl 3 rfl) ?_
              refine lv_aload_n hx hb dX7_readCond_94 rfl (lv_at hl 4 rfl) ?_
              refine lv_aload_n hx hb dX7_readCond_95 rfl (lv_at hl 5 rfl) ?_
              refine lv_iload_n hx hb dX7_readCond_96 rfl (lv_at hl 6 rfl) ?_
              refine va_calli (va_runV (As := [.ref (A 1), .ref (A (36 + 20 * 0)), .int 1]) (rest := []) ⟨hx, hb, hml, hown, hts⟩ (x_readOne_1 l dC dI ad E hEE A C nb _ hN st105 sl106 so107  hG.1 hO.1) (cwV 3 hts gX7_readCond_X7_readOne rfl rfl rfl (by decide +kernel) ⟨Nat.le_of_ble_eq_true rfl, Nat.le_of_ble_eq_true rfl⟩) ⟨fun a U g mk q => ⟨q.1, xPre.blind hEE q.2⟩, va_recv hK hP (ci := 8) (q0 := (20 + 4 * 1)) rfl (xw_is (r := (20 + 4 * 1)) (by omega) (xc_sn (q := 1) (o := 0) (by omega) (by omega))), fun U hU hW => ⟨rfl, xPre.of hEE hP hK hE hS hU hW⟩⟩ rfl rfl hl.1 rfl (lv_room (Nat.le_of_ble_eq_true rfl)) dX7_readCond_97 ⟨Nat.le_of_ble_eq_true rfl, Nat.le_of_ble_eq_true rfl⟩) hS (fun q _ h => XA.le hS.1 q h) (XA.le hS.1) (fun r108 x t H locs ht hvm hw hB _ _ hS => ?_)
              have hP := xB.at ht hB
              clear hB ht hvm
              obtain ⟨st109, sl110, so111⟩ := x
              obtain ⟨hGst109, hLGst109, hOst109, hw⟩ := hw
              dsimp only at hGst109 hLGst109 hOst109 hw
              have hL : LGq sl sl110 := hL.tr hLGst109
              have hO : OG ad [2, 4] so so111 := hO.tr hOst109 (by decide)
              have hP : va_P (dC, dI) vwCl (xw A C nb st109 sl110 so111) _ := hP
              have hG : XG [1, 2, 3, 4, 5, 6, 7, 12, 13, 14, 15] st st109 := hG.tr hGst109 (by decide)
              rcases hw with ⟨rfl, hf112⟩ | ⟨rfl, hf113⟩
              · have hsk : SKs ad st so 1 → SKs ad st109 so111 1 := fun hh => hf112 (hsk hh)
                refine lv_istore (lv' := [(4, .int 1), (5, .int 1), (6, .int (nI k7)), (0, .ref (A (20 + 4 * 1))), (1, .ref (A 1)), (2, .ref (A (36 + 20 * 0))), (3, .int 1)]) hx hb dX7_readCond_100 hl (by decide) rfl (fun ls hl => ?_)
                refine lv_iinc (v := (nI (k7 + 1))) (lv' := [(6, .int (nI (k7 + 1))), (4, .int 1), (5, .int 1), (0, .ref (A (20 + 4 * 1))), (1, .ref (A 1)), (2, .ref (A (36 + 20 * 0))), (3, .int 1)]) hx hb dX7_readCond_102 hl (k := 2) rfl (nI_add k7 1) (by decide) rfl (fun ls hl => ?_)
                refine lv_goto (tgt := 15) hx hb dX7_readCond_105 (by decide) ?_
                exact ih21 (21 - (k7 + 1)) _ _ _ _ (by omega) ⟨(k7 + 1), 1, 1, st109, sl110, so111, rfl, by omega, by omega, by omega, by omega, by omega, by omega, fun _ => hsk, fun h9 => absurd h9 (by omega), hP, hG, hO, hL, hS, lv_sub hl [0, 2, 1, 3, 4, 5, 6] rfl, rfl⟩
              · refine lv_istore (lv' := [(4, .int 0), (5, .int 1), (6, .int (nI k7)), (0, .ref (A (20 + 4 * 1))), (1, .ref (A 1)), (2, .ref (A (36 + 20 * 0))), (3, .int 1)]) hx hb dX7_readCond_100 hl (by decide) rfl (fun ls hl => ?_)
                refine lv_iinc (v := (nI (k7 + 1))) (lv' := [(6, .int (nI (k7 + 1))), (4, .int 0), (5, .int 1), (0, .ref (A (20 + 4 * 1))), (1, .ref (A 1)), (2, .ref (A (36 + 20 * 0))), (3, .int 1)]) hx hb dX7_readCond_102 hl (k := 2) rfl (nI_add k7 1) (by decide) rfl (fun ls hl => ?_)
                refine lv_goto (tgt := 15) hx hb dX7_readCond_105 (by decide) ?_
                exact ih21 (21 - (k7 + 1)) _ _ _ _ (by omega) ⟨(k7 + 1), 1, 0, st109, sl110, so111, rfl, by omega, by omega, by omega, by omega, by omega, by omega, fun h9 => absurd h9 (by omega), fun _ => by show ¬ st109 1 13 = 0; exact hf113, hP, hG, hO, hL, hS, lv_sub hl [0, 2, 1, 3, 4, 5, 6] rfl, rfl⟩
        · have c23 : j66 = 14 := (EV.eqw hEv (i := j66) (j := 14) (by omega) (by omega)).mp c23
          refine lv_aload_n hx hb dX7_readCond_37 rfl (lv_at hl 4 rfl) ?_
          refine va_callv (va_runV (As := []) (rest := []) ⟨hx, hb, hml, hown, hts⟩ (x_X8_step l dC dI ad E hEE A C nb _ hN st10 sl11 so12  hG.1 hO.1) (cwV 0 hts gX7_readCond_X8_step rfl rfl rfl (by decide +kernel) ⟨Nat.le_of_ble_eq_true rfl, Nat.le_of_ble_eq_true rfl⟩) ⟨fun a U g mk q => ⟨q.1, xPre.blind hEE q.2⟩, va_recv hK hP (ci := 9) (q0 := 1) rfl (xw_is (r := 1) (by omega) (xc_fix (r := 1) (by omega))), fun U hU hW => ⟨rfl, xPre.of hEE hP hK hE hS hU hW⟩⟩ rfl rfl hl.1 rfl (lv_room (Nat.le_of_ble_eq_true rfl)) dX7_readCond_38 ⟨Nat.le_of_ble_eq_true rfl, Nat.le_of_ble_eq_true rfl⟩) hS (fun q _ h => XA.le hS.1 q h) (XA.le hS.1) (fun x t H locs ht hvm hw hB _ _ hS => ?_)
          have hP := xB.at ht hB
          clear hB ht hvm
          obtain ⟨st115, sl116, so117⟩ := x
          obtain ⟨hGst115, hLGst115, hOst115, hw⟩ := hw
          dsimp only at hGst115 hLGst115 hOst115 hw
          have hL : LGq sl sl116 := hL.tr hLGst115
          have hO : OG ad [2, 4] so so117 := hO.tr hOst115 (by decide)
          have hP : va_P (dC, dI) vwCl (xw A C nb st115 sl116 so117) _ := hP
          have hG : XG [1, 2, 3, 4, 5, 6, 7, 12, 13, 14, 15] st st115 := hG.tr hGst115 (by decide)
          clear hw
          have hsk : SKs ad st so 1 → SKs ad st115 so117 1 := fun hh => SKs.mg (hsk hh) (by omega) hGst115 hOst115 (by decide) (by decide) (by decide)
          refine lv_aload_n hx hb dX7_readCond_41 rfl (lv_at hl 3 rfl) ?_
          refine lv_aload_n hx hb dX7_readCond_42 rfl (lv_at hl 4 rfl) ?_
          refine lv_aload_n hx hb dX7_readCond_43 rfl (lv_at hl 5 rfl) ?_
          refine lv_iload_n hx hb dX7_readCond_44 rfl (lv_at hl 6 rfl) ?_
          refine va_calli (va_runV (As := [.ref (A 1), .ref (A (36 + 20 * 0)), .int 1]) (rest := []) ⟨hx, hb, hml, hown, hts⟩ (x_readOne_1 l dC dI ad E hEE A C nb _ hN st115 sl116 so117  hG.1 hO.1) (cwV 3 hts gX7_readCond_X7_readOne rfl rfl rfl (by decide +kernel) ⟨Nat.le_of_ble_eq_true rfl, Nat.le_of_ble_eq_true rfl⟩) ⟨fun a U g mk q => ⟨q.1, xPre.blind hEE q.2⟩, va_recv hK hP (ci := 8) (q0 := (20 + 4 * 1)) rfl (xw_is (r := (20 + 4 * 1)) (by omega) (xc_sn (q := 1) (o := 0) (by omega) (by omega))), fun U hU hW => ⟨rfl, xPre.of hEE hP hK hE hS hU hW⟩⟩ rfl rfl hl.1 rfl (lv_room (Nat.le_of_ble_eq_true rfl)) dX7_readCond_45 ⟨Nat.le_of_ble_eq_true rfl, Nat.le_of_ble_eq_true rfl⟩) hS (fun q _ h => XA.le hS.1 q h) (XA.le hS.1) (fun r118 x t H locs ht hvm hw hB _ _ hS => ?_)
          have hP := xB.at ht hB
          clear hB ht hvm
          obtain ⟨st119, sl120, so121⟩ := x
          obtain ⟨hGst119, hLGst119, hOst119, hw⟩ := hw
          dsimp only at hGst119 hLGst119 hOst119 hw
          have hL : LGq sl sl120 := hL.tr hLGst119
          have hO : OG ad [2, 4] so so121 := hO.tr hOst119 (by decide)
          have hP : va_P (dC, dI) vwCl (xw A C nb st119 sl120 so121) _ := hP
          have hG : XG [1, 2, 3, 4, 5, 6, 7, 12, 13, 14, 15] st st119 := hG.tr hGst119 (by decide)
          rcases hw with ⟨rfl, hf122⟩ | ⟨rfl, hf123⟩
          · have hsk : SKs ad st so 1 → SKs ad st119 so121 1 := fun hh => hf122 (hsk hh)
            refine lv_istore (lv' := [(4, .int 1), (6, .int (nI k7)), (5, .int (nI k8)), (0, .ref (A (20 + 4 * 1))), (1, .ref (A 1)), (2, .ref (A (36 + 20 * 0))), (3, .int 1)]) hx hb dX7_readCond_48 hl (by decide) rfl (fun ls hl => ?_)
            refine lv_aload_n hx hb dX7_readCond_50 rfl (lv_at hl 3 rfl) ?_
            refine va_gets (v := .ref (ad 14)) hx hb (EV.word hEv (i := 14) (by decide)) hS hown (hts _ mm_X7_readCond_1) (fun _ hh => hh) dX7_readCond_51 ?_
            refine lv_iconst (v := 0) hx hb dX7_readCond_54 (by decide) ?_
            refine lv_iconst (v := 0) hx hb dX7_readCond_55 (by decide) ?_
            refine va_callv (va_runV (As := [.ref (ad 14), .int 0, .int 0]) (rest := []) ⟨hx, hb, hml, hown, hts⟩ (x_X7_add l dC dI ad E hEE A C nb _ hN st119 sl120 so121 14 0 0 (by omega) hG.1 hO.1) (cwV 3 hts gX7_readCond_X7_add rfl rfl rfl (by decide +kernel) ⟨Nat.le_of_ble_eq_true rfl, Nat.le_of_ble_eq_true rfl⟩) ⟨fun a U g mk q => ⟨q.1, xPre.blind hEE q.2⟩, va_recv hK hP (ci := 8) (q0 := (20 + 4 * 1)) rfl (xw_is (r := (20 + 4 * 1)) (by omega) (xc_sn (q := 1) (o := 0) (by omega) (by omega))), fun U hU hW => ⟨rfl, xPre.of hEE hP hK hE hS hU hW⟩⟩ rfl rfl hl.1 rfl (lv_room (Nat.le_of_ble_eq_true rfl)) dX7_readCond_56 ⟨Nat.le_of_ble_eq_true rfl, Nat.le_of_ble_eq_true rfl⟩) hS (fun q _ h => XA.le hS.1 q h) (XA.le hS.1) (fun x t H locs ht hvm hw hB _ _ hS => ?_)
            have hP := xB.at ht hB
            clear hB ht hvm
            obtain ⟨st125, sl126, so127⟩ := x
            obtain ⟨hGst125, hLGst125, hOst125, hw⟩ := hw
            dsimp only at hGst125 hLGst125 hOst125 hw
            have hL : LGq sl sl126 := hL.tr hLGst125
            have hO : OG ad [2, 4] so so127 := hO.tr hOst125 (by decide)
            have hP : va_P (dC, dI) vwCl (xw A C nb st125 sl126 so127) _ := hP
            have hG : XG [1, 2, 3, 4, 5, 6, 7, 12, 13, 14, 15] st st125 := hG.tr hGst125 (by decide)
            have hf128 := hw
            have hsk : SKs ad st so 1 → SKs ad st125 so127 1 := fun hh => hf128 (hsk hh) (fun h9 => absurd h9 (by omega))
            refine lv_goto (tgt := 102) hx hb dX7_readCond_59 (by decide) ?_
            refine lv_iinc (v := (nI (k7 + 1))) (lv' := [(6, .int (nI (k7 + 1))), (4, .int 1), (5, .int (nI k8)), (0, .ref (A (20 + 4 * 1))), (1, .ref (A 1)), (2, .ref (A (36 + 20 * 0))), (3, .int 1)]) hx hb dX7_readCond_102 hl (k := 1) rfl (nI_add k7 1) (by decide) rfl (fun ls hl => ?_)
            refine lv_goto (tgt := 15) hx hb dX7_readCond_105 (by decide) ?_
            exact ih21 (21 - (k7 + 1)) _ _ _ _ (by omega) ⟨(k7 + 1), k8, 1, st125, sl126, so127, rfl, by omega, by omega, by omega, by omega, by omega, by omega, fun _ => hsk, fun h9 => absurd h9 (by omega), hP, hG, hO, hL, hS, lv_sub hl [0, 2, 1, 3, 4, 5, 6] rfl, rfl⟩
          · refine lv_istore (lv' := [(4, .int 0), (6, .int (nI k7)), (5, .int (nI k8)), (0, .ref (A (20 + 4 * 1))), (1, .ref (A 1)), (2, .ref (A (36 + 20 * 0))), (3, .int 1)]) hx hb dX7_readCond_48 hl (by decide) rfl (fun ls hl => ?_)
            refine lv_aload_n hx hb dX7_readCond_50 rfl (lv_at hl 3 rfl) ?_
            refine va_gets (v := .ref (ad 14)) hx hb (EV.word hEv (i := 14) (by decide)) hS hown (hts _ mm_X7_readCond_1) (fun _ hh => hh) dX7_readCond_51 ?_
            refine lv_iconst (v := 0) hx hb dX7_readCond_54 (by decide) ?_
            refine lv_iconst (v := 0) hx hb dX7_readCond_55 (by decide) ?_
            refine va_callv (va_runV (As := [.ref (ad 14), .int 0, .int 0]) (rest := []) ⟨hx, hb, hml, hown, hts⟩ (x_X7_add l dC dI ad E hEE A C nb _ hN st119 sl120 so121 14 0 0 (by omega) hG.1 hO.1) (cwV 3 hts gX7_readCond_X7_add rfl rfl rfl (by decide +kernel) ⟨Nat.le_of_ble_eq_true rfl, Nat.le_of_ble_eq_true rfl⟩) ⟨fun a U g mk q => ⟨q.1, xPre.blind hEE q.2⟩, va_recv hK hP (ci := 8) (q0 := (20 + 4 * 1)) rfl (xw_is (r := (20 + 4 * 1)) (by omega) (xc_sn (q := 1) (o := 0) (by omega) (by omega))), fun U hU hW => ⟨rfl, xPre.of hEE hP hK hE hS hU hW⟩⟩ rfl rfl hl.1 rfl (lv_room (Nat.le_of_ble_eq_true rfl)) dX7_readCond_56 ⟨Nat.le_of_ble_eq_true rfl, Nat.le_of_ble_eq_true rfl⟩) hS (fun q _ h => XA.le hS.1 q h) (XA.le hS.1) (fun x t H locs ht hvm hw hB _ _ hS => ?_)
            have hP := xB.at ht hB
            clear hB ht hvm
            obtain ⟨st130, sl131, so132⟩ := x
            obtain ⟨hGst130, hLGst130, hOst130, hw⟩ := hw
            dsimp only at hGst130 hLGst130 hOst130 hw
            have hL : LGq sl sl131 := hL.tr hLGst130
            have hO : OG ad [2, 4] so so132 := hO.tr hOst130 (by decide)
            have hP : va_P (dC, dI) vwCl (xw A C nb st130 sl131 so132) _ := hP
            have hG : XG [1, 2, 3, 4, 5, 6, 7, 12, 13, 14, 15] st st130 := hG.tr hGst130 (by decide)
            have hf133 := hw
            refine lv_goto (tgt := 102) hx hb dX7_readCond_59 (by decide) ?_
            refine lv_iinc (v := (nI (k7 + 1))) (lv' := [(6, .int (nI (k7 + 1))), (4, .int 0), (5, .int (nI k8)), (0, .ref (A (20 + 4 * 1))), (1, .ref (A 1)), (2, .ref (A (36 + 20 * 0))), (3, .int 1)]) hx hb dX7_readCond_102 hl (k := 1) rfl (nI_add k7 1) (by decide) rfl (fun ls hl => ?_)
            refine lv_goto (tgt := 15) hx hb dX7_readCond_105 (by decide) ?_
            exact ih21 (21 - (k7 + 1)) _ _ _ _ (by omega) ⟨(k7 + 1), k8, 0, st130, sl131, so132, rfl, by omega, by omega, by omega, by omega, by omega, by omega, fun h9 => absurd h9 (by omega), fun _ => by show ¬ st130 1 13 = 0; rw [hGst130.2 1 13 (by rw [(by decide : xcl 1 13 = 10)]; decide)]; exact hf123, hP, hG, hO, hL, hS, lv_sub hl [0, 2, 1, 3, 4, 5, 6] rfl, rfl⟩
  · refine lv_istore (lv' := [(4, .int 0), (0, .ref (A (20 + 4 * 1))), (1, .ref (A 1)), (2, .ref (A (36 + 20 * 0))), (3, .int 1)]) hx hb dX7_readCond_7 hl (by decide) rfl (fun ls hl => ?_)
    refine lv_iconst (v := 0) hx hb dX7_readCond_9 (by decide) ?_
    refine lv_istore (lv' := [(5, .int 0), (4, .int 0), (0, .ref (A (20 + 4 * 1))), (1, .ref (A 1)), (2, .ref (A (36 + 20 * 0))), (3, .int 1)]) hx hb dX7_readCond_10 hl (by decide) rfl (fun ls hl => ?_)
    refine lv_iconst (v := 0) hx hb dX7_readCond_12 (by decide) ?_
    refine lv_istore (lv' := [(6, .int 0), (5, .int 0), (4, .int 0), (0, .ref (A (20 + 4 * 1))), (1, .ref (A 1)), (2, .ref (A (36 + 20 * 0))), (3, .int 1)]) hx hb dX7_readCond_13 hl (by decide) rfl (fun ls hl => ?_)
    refine zz_wf (fun n stk H locs ls => ∃ k134 : Nat, ∃ k135 : Nat, ∃ k136 : Nat, ∃ st137 : Nat → Nat → Int32, ∃ sl138 : Nat → Nat → Int64, ∃ so139 : Nat → XR, n = 21 - k134 ∧ 0 ≤ k134 ∧ k134 < 21 ∧ 0 ≤ k135 ∧ k135 < 2 ∧ 0 ≤ k136 ∧ k136 < 2 ∧ ((k136 = 1 → SKs ad st so 1 → SKs ad st137 so139 1)) ∧ ((k136 = 0 → ¬ st137 1 13 = 0)) ∧ va_P (dC, dI) vwCl (xw A C nb st137 sl138 so139) H ∧ XG [1, 2, 3, 4, 5, 6, 7, 12, 13, 14, 15] st st137 ∧ OG ad [2, 4] so so139 ∧ LGq sl sl138 ∧ va_S (XA A s.heap.size) s.heap H locs ∧ lv_has ls 7 [(6, .int (nI k134)), (5, .int (nI k135)), (4, .int (nI k136)), (0, .ref (A (20 + 4 * 1))), (1, .ref (A 1)), (2, .ref (A (36 + 20 * 0))), (3, .int 1)] ∧ stk = []) ?_ (21 - 0) _ _ _ _ ⟨0, 0, 0, st2, sl3, so4, rfl, by omega, by omega, by omega, by omega, by omega, by omega, fun h9 => absurd h9 (by omega), fun _ => by show ¬ st2 1 13 = 0; exact hf6, hP, hG, hO, hL, hS, lv_sub hl [0, 1, 2, 3, 4, 5, 6] rfl, rfl⟩
    rintro nn stk H locs ls ⟨k134, k135, k136, st137, sl138, so139, hm147, hv140_0, hv141_1, hv142_2, hv143_3, hv144_4, hv145_5, hv146_0, hv147_1, hP, hG, hO, hL, hS, hl, rfl⟩ ih148
    refine lv_iload hx hb dX7_readCond_15 (lv_at hl 0 rfl) ?_
    refine lv_bipush (v := 20) hx hb dX7_readCond_17 (by decide) ?_
    refine lv_icmp_ge (tgt := 108) hx hb dX7_readCond_19 (by decide) (fun c36 => ?_) (fun c36 => ?_)
    · have c36 : 20 ≤ k134 := (nI_leI (a := 20) (b := k134) (by omega) (by omega)).mp c36
      by_cases cg : k136 = 1
      · have hsk : SKs ad st so 1 → SKs ad st137 so139 1 := hv146_0 cg
        have hl : lv_has ls 7 [(6, .int (nI k134)), (5, .int (nI k135)), (4, .int 1), (0, .ref (A (20 + 4 * 1))), (1, .ref (A 1)), (2, .ref (A (36 + 20 * 0))), (3, .int 1)] := by rw [cg] at hl; exact hl
        refine lv_iload hx hb dX7_readCond_108 (lv_at hl 1 rfl) ?_
        refine lv_if_eq (tgt := 122) hx hb dX7_readCond_110 (by decide) (fun c37 => ?_) (fun c37 => ?_)
        · have c37 : k135 = 0 := (nI_eq (a := k135) (b := 0) (by omega) (by omega)).mp c37
          refine lv_iload hx hb dX7_readCond_122 (lv_at hl 2 rfl) ?_
          refine lv_if_eq (tgt := 146) hx hb dX7_readCond_124 (by decide) (fun cc => absurd cc (by decide)) (fun _ => ?_)
          refine lv_iload_n hx hb dX7_readCond_127 rfl (lv_at hl 6 rfl) ?_
          refine lv_iconst (v := 1) hx hb dX7_readCond_128 (by decide) ?_
          refine lv_icmp_ne (tgt := 146) hx hb dX7_readCond_129 (by decide) (fun cc => absurd (by decide) cc) (fun _ => ?_)
          refine lv_aload_n hx hb dX7_readCond_132 rfl (lv_at hl 4 rfl) ?_
          refine va_getN (host := "OffTheLead") (D := (dC, dI)) (ci := 9) (v := .int (st137 1 4)) (C := RX8) (T := TX8) (N := 15) hx hb hts ii_X7_readCond_X8 hown hK hP 1 (xw_is (r := 1) (by omega) (xc_fix (r := 1) (by omega))) rfl 4 (by decide) (va_Nw.use rfl (nf_X7_54 hEv)) (fun _ hh => hh) rfl dX7_readCond_133 ?_
          obtain ⟨z149, ez149⟩ : ∃ y : Int32, st137 1 4 = y := ⟨_, rfl⟩
          refine zz_top (v := z149) (by exact ez149) ?_
          refine lv_iconst (v := 3) hx hb dX7_readCond_136 (by decide) ?_
          refine lv_icmp_eq (tgt := 146) hx hb dX7_readCond_137 (by decide) (fun c40 => ?_) (fun c40 => ?_)
          · refine lv_iload hx hb dX7_readCond_146 (lv_at hl 2 rfl) ?_
            exact W.zret (v := 1) hx hb hr rfl (fun t ht hW => ⟨⟨1, (st137, sl138, so139), rfl, ⟨hG, hL, hO, Or.inl ⟨rfl, hsk⟩⟩, xB.of ht hP⟩, hS.F ht⟩) hS.2.2 dX7_readCond_148
          · refine lv_aload_n hx hb dX7_readCond_140 rfl (lv_at hl 4 rfl) ?_
            refine lv_iconst (v := 1) hx hb dX7_readCond_141 (by decide) ?_
            refine va_calli (va_runV (As := [.int 1]) (rest := []) ⟨hx, hb, hml, hown, hts⟩ (x_X8_refuse l dC dI ad E hEE A C nb _ hN st137 sl138 so139 1  hG.1) (cwV 1 hts gX7_readCond_X8_refuse rfl rfl rfl (by decide +kernel) ⟨Nat.le_of_ble_eq_true rfl, Nat.le_of_ble_eq_true rfl⟩) ⟨fun a U g mk q => ⟨q.1, xPre.blind hEE q.2⟩, va_recv hK hP (ci := 9) (q0 := 1) rfl (xw_is (r := 1) (by omega) (xc_fix (r := 1) (by omega))), fun U hU hW => ⟨rfl, xPre.of hEE hP hK hE hS hU hW⟩⟩ rfl rfl hl.1 rfl (lv_room (Nat.le_of_ble_eq_true rfl)) dX7_readCond_142 ⟨Nat.le_of_ble_eq_true rfl, Nat.le_of_ble_eq_true rfl⟩) hS (fun q _ h => XA.le hS.1 q h) (XA.le hS.1) (fun r150 x t H locs ht hvm hw hB _ _ hS => ?_)
            have hP := xB.at ht hB
            clear hB ht hvm
            obtain ⟨st151, sl152, so153⟩ := x
            obtain ⟨hGst151, hLGst151, hOst151, hw⟩ := hw
            dsimp only at hGst151 hLGst151 hOst151 hw
            have hL : LGq sl sl152 := hL.tr hLGst151
            replace hOst151 := hOst151.symm
            subst hOst151
            have hP : va_P (dC, dI) vwCl (xw A C nb st151 sl152 so139) _ := hP
            have hG : XG [1, 2, 3, 4, 5, 6, 7, 12, 13, 14, 15] st st151 := hG.tr hGst151 (by decide)
            obtain ⟨rfl, hf154⟩ := hw
            have hsk : SKs ad st so 1 → SKs ad st151 so139 1 := fun hh => SKs.mgs (hsk hh) (by omega) hGst151 (by decide) (by decide)
            exact W.zret (v := 0) hx hb hr rfl (fun t ht hW => ⟨⟨0, (st151, sl152, so139), rfl, ⟨hG, hL, hO, Or.inr (⟨rfl, by show ¬ st151 1 13 = 0; rw [hf154]; decide⟩)⟩, xB.of ht hP⟩, hS.F ht⟩) hS.2.2 dX7_readCond_145
        · have c37 : ¬ k135 = 0 := fun hh => c37 ((nI_eq (a := k135) (b := 0) (by omega) (by omega)).mpr hh)
          refine lv_aload_n hx hb dX7_readCond_113 rfl (lv_at hl 3 rfl) ?_
          refine va_gets (v := .ref (ad 13)) hx hb (EV.word hEv (i := 13) (by decide)) hS hown (hts _ mm_X7_readCond_2) (fun _ hh => hh) dX7_readCond_114 ?_
          refine lv_iconst (v := 0) hx hb dX7_readCond_117 (by decide) ?_
          refine lv_iconst (v := 0) hx hb dX7_readCond_118 (by decide) ?_
          refine va_callv (va_runV (As := [.ref (ad 13), .int 0, .int 0]) (rest := []) ⟨hx, hb, hml, hown, hts⟩ (x_X7_add l dC dI ad E hEE A C nb _ hN st137 sl138 so139 13 0 0 (by omega) hG.1 hO.1) (cwV 3 hts gX7_readCond_X7_add rfl rfl rfl (by decide +kernel) ⟨Nat.le_of_ble_eq_true rfl, Nat.le_of_ble_eq_true rfl⟩) ⟨fun a U g mk q => ⟨q.1, xPre.blind hEE q.2⟩, va_recv hK hP (ci := 8) (q0 := (20 + 4 * 1)) rfl (xw_is (r := (20 + 4 * 1)) (by omega) (xc_sn (q := 1) (o := 0) (by omega) (by omega))), fun U hU hW => ⟨rfl, xPre.of hEE hP hK hE hS hU hW⟩⟩ rfl rfl hl.1 rfl (lv_room (Nat.le_of_ble_eq_true rfl)) dX7_readCond_119 ⟨Nat.le_of_ble_eq_true rfl, Nat.le_of_ble_eq_true rfl⟩) hS (fun q _ h => XA.le hS.1 q h) (XA.le hS.1) (fun x t H locs ht hvm hw hB _ _ hS => ?_)
          have hP := xB.at ht hB
          clear hB ht hvm
          obtain ⟨st156, sl157, so158⟩ := x
          obtain ⟨hGst156, hLGst156, hOst156, hw⟩ := hw
          dsimp only at hGst156 hLGst156 hOst156 hw
          have hL : LGq sl sl157 := hL.tr hLGst156
          have hO : OG ad [2, 4] so so158 := hO.tr hOst156 (by decide)
          have hP : va_P (dC, dI) vwCl (xw A C nb st156 sl157 so158) _ := hP
          have hG : XG [1, 2, 3, 4, 5, 6, 7, 12, 13, 14, 15] st st156 := hG.tr hGst156 (by decide)
          have hf159 := hw
          have hsk : SKs ad st so 1 → SKs ad st156 so158 1 := fun hh => hf159 (hsk hh) (fun h9 => absurd h9 (by omega))
          refine lv_iload hx hb dX7_readCond_122 (lv_at hl 2 rfl) ?_
          refine lv_if_eq (tgt := 146) hx hb dX7_readCond_124 (by decide) (fun cc => absurd cc (by decide)) (fun _ => ?_)
          refine lv_iload_n hx hb dX7_readCond_127 rfl (lv_at hl 6 rfl) ?_
          refine lv_iconst (v := 1) hx hb dX7_readCond_128 (by decide) ?_
          refine lv_icmp_ne (tgt := 146) hx hb dX7_readCond_129 (by decide) (fun cc => absurd (by decide) cc) (fun _ => ?_)
          refine lv_aload_n hx hb dX7_readCond_132 rfl (lv_at hl 4 rfl) ?_
          refine va_getN (host := "OffTheLead") (D := (dC, dI)) (ci := 9) (v := .int (st156 1 4)) (C := RX8) (T := TX8) (N := 15) hx hb hts ii_X7_readCond_X8 hown hK hP 1 (xw_is (r := 1) (by omega) (xc_fix (r := 1) (by omega))) rfl 4 (by decide) (va_Nw.use rfl (nf_X7_54 hEv)) (fun _ hh => hh) rfl dX7_readCond_133 ?_
          obtain ⟨z160, ez160⟩ : ∃ y : Int32, st156 1 4 = y := ⟨_, rfl⟩
          refine zz_top (v := z160) (by exact ez160) ?_
          refine lv_iconst (v := 3) hx hb dX7_readCond_136 (by decide) ?_
          refine lv_icmp_eq (tgt := 146) hx hb dX7_readCond_137 (by decide) (fun c43 => ?_) (fun c43 => ?_)
          · refine lv_iload hx hb dX7_readCond_146 (lv_at hl 2 rfl) ?_
            exact W.zret (v := 1) hx hb hr rfl (fun t ht hW => ⟨⟨1, (st156, sl157, so158), rfl, ⟨hG, hL, hO, Or.inl ⟨rfl, hsk⟩⟩, xB.of ht hP⟩, hS.F ht⟩) hS.2.2 dX7_readCond_148
          · refine lv_aload_n hx hb dX7_readCond_140 rfl (lv_at hl 4 rfl) ?_
            refine lv_iconst (v := 1) hx hb dX7_readCond_141 (by decide) ?_
            refine va_calli (va_runV (As := [.int 1]) (rest := []) ⟨hx, hb, hml, hown, hts⟩ (x_X8_refuse l dC dI ad E hEE A C nb _ hN st156 sl157 so158 1  hG.1) (cwV 1 hts gX7_readCond_X8_refuse rfl rfl rfl (by decide +kernel) ⟨Nat.le_of_ble_eq_true rfl, Nat.le_of_ble_eq_true rfl⟩) ⟨fun a U g mk q => ⟨q.1, xPre.blind hEE q.2⟩, va_recv hK hP (ci := 9) (q0 := 1) rfl (xw_is (r := 1) (by omega) (xc_fix (r := 1) (by omega))), fun U hU hW => ⟨rfl, xPre.of hEE hP hK hE hS hU hW⟩⟩ rfl rfl hl.1 rfl (lv_room (Nat.le_of_ble_eq_true rfl)) dX7_readCond_142 ⟨Nat.le_of_ble_eq_true rfl, Nat.le_of_ble_eq_true rfl⟩) hS (fun q _ h => XA.le hS.1 q h) (XA.le hS.1) (fun r161 x t H locs ht hvm hw hB _ _ hS => ?_)
            have hP := xB.at ht hB
            clear hB ht hvm
            obtain ⟨st162, sl163, so164⟩ := x
            obtain ⟨hGst162, hLGst162, hOst162, hw⟩ := hw
            dsimp only at hGst162 hLGst162 hOst162 hw
            have hL : LGq sl sl163 := hL.tr hLGst162
            replace hOst162 := hOst162.symm
            subst hOst162
            have hP : va_P (dC, dI) vwCl (xw A C nb st162 sl163 so158) _ := hP
            have hG : XG [1, 2, 3, 4, 5, 6, 7, 12, 13, 14, 15] st st162 := hG.tr hGst162 (by decide)
            obtain ⟨rfl, hf165⟩ := hw
            have hsk : SKs ad st so 1 → SKs ad st162 so158 1 := fun hh => SKs.mgs (hsk hh) (by omega) hGst162 (by decide) (by decide)
            exact W.zret (v := 0) hx hb hr rfl (fun t ht hW => ⟨⟨0, (st162, sl163, so158), rfl, ⟨hG, hL, hO, Or.inr (⟨rfl, by show ¬ st162 1 13 = 0; rw [hf165]; decide⟩)⟩, xB.of ht hP⟩, hS.F ht⟩) hS.2.2 dX7_readCond_145
      · have cg : k136 = 0 := by omega
        have hfa : ¬ st137 1 13 = 0 := hv147_1 cg
        have hl : lv_has ls 7 [(6, .int (nI k134)), (5, .int (nI k135)), (4, .int 0), (0, .ref (A (20 + 4 * 1))), (1, .ref (A 1)), (2, .ref (A (36 + 20 * 0))), (3, .int 1)] := by rw [cg] at hl; exact hl
        refine lv_iload hx hb dX7_readCond_108 (lv_at hl 1 rfl) ?_
        refine lv_if_eq (tgt := 122) hx hb dX7_readCond_110 (by decide) (fun c44 => ?_) (fun c44 => ?_)
        · have c44 : k135 = 0 := (nI_eq (a := k135) (b := 0) (by omega) (by omega)).mp c44
          refine lv_iload hx hb dX7_readCond_122 (lv_at hl 2 rfl) ?_
          refine lv_if_eq (tgt := 146) hx hb dX7_readCond_124 (by decide) (fun _ => ?_) (fun cc => absurd (by decide) cc)
          refine lv_iload hx hb dX7_readCond_146 (lv_at hl 2 rfl) ?_
          exact W.zret (v := 0) hx hb hr rfl (fun t ht hW => ⟨⟨0, (st137, sl138, so139), rfl, ⟨hG, hL, hO, Or.inr (⟨rfl, by show ¬ st137 1 13 = 0; exact hfa⟩)⟩, xB.of ht hP⟩, hS.F ht⟩) hS.2.2 dX7_readCond_148
        · have c44 : ¬ k135 = 0 := fun hh => c44 ((nI_eq (a := k135) (b := 0) (by omega) (by omega)).mpr hh)
          refine lv_aload_n hx hb dX7_readCond_113 rfl (lv_at hl 3 rfl) ?_
          refine va_gets (v := .ref (ad 13)) hx hb (EV.word hEv (i := 13) (by decide)) hS hown (hts _ mm_X7_readCond_2) (fun _ hh => hh) dX7_readCond_114 ?_
          refine lv_iconst (v := 0) hx hb dX7_readCond_117 (by decide) ?_
          refine lv_iconst (v := 0) hx hb dX7_readCond_118 (by decide) ?_
          refine va_callv (va_runV (As := [.ref (ad 13), .int 0, .int 0]) (rest := []) ⟨hx, hb, hml, hown, hts⟩ (x_X7_add l dC dI ad E hEE A C nb _ hN st137 sl138 so139 13 0 0 (by omega) hG.1 hO.1) (cwV 3 hts gX7_readCond_X7_add rfl rfl rfl (by decide +kernel) ⟨Nat.le_of_ble_eq_true rfl, Nat.le_of_ble_eq_true rfl⟩) ⟨fun a U g mk q => ⟨q.1, xPre.blind hEE q.2⟩, va_recv hK hP (ci := 8) (q0 := (20 + 4 * 1)) rfl (xw_is (r := (20 + 4 * 1)) (by omega) (xc_sn (q := 1) (o := 0) (by omega) (by omega))), fun U hU hW => ⟨rfl, xPre.of hEE hP hK hE hS hU hW⟩⟩ rfl rfl hl.1 rfl (lv_room (Nat.le_of_ble_eq_true rfl)) dX7_readCond_119 ⟨Nat.le_of_ble_eq_true rfl, Nat.le_of_ble_eq_true rfl⟩) hS (fun q _ h => XA.le hS.1 q h) (XA.le hS.1) (fun x t H locs ht hvm hw hB _ _ hS => ?_)
          have hP := xB.at ht hB
          clear hB ht hvm
          obtain ⟨st167, sl168, so169⟩ := x
          obtain ⟨hGst167, hLGst167, hOst167, hw⟩ := hw
          dsimp only at hGst167 hLGst167 hOst167 hw
          have hL : LGq sl sl168 := hL.tr hLGst167
          have hO : OG ad [2, 4] so so169 := hO.tr hOst167 (by decide)
          have hP : va_P (dC, dI) vwCl (xw A C nb st167 sl168 so169) _ := hP
          have hG : XG [1, 2, 3, 4, 5, 6, 7, 12, 13, 14, 15] st st167 := hG.tr hGst167 (by decide)
          have hf170 := hw
          refine lv_iload hx hb dX7_readCond_122 (lv_at hl 2 rfl) ?_
          refine lv_if_eq (tgt := 146) hx hb dX7_readCond_124 (by decide) (fun _ => ?_) (fun cc => absurd (by decide) cc)
          refine lv_iload hx hb dX7_readCond_146 (lv_at hl 2 rfl) ?_
          exact W.zret (v := 0) hx hb hr rfl (fun t ht hW => ⟨⟨0, (st167, sl168, so169), rfl, ⟨hG, hL, hO, Or.inr (⟨rfl, by show ¬ st167 1 13 = 0; rw [hGst167.2 1 13 (by rw [(by decide : xcl 1 13 = 10)]; decide)]; exact hfa⟩)⟩, xB.of ht hP⟩, hS.F ht⟩) hS.2.2 dX7_readCond_148
    · have c36 : ¬ 20 ≤ k134 := fun hh => c36 ((nI_leI (a := 20) (b := k134) (by omega) (by omega)).mpr hh)
      refine lv_iload hx hb dX7_readCond_22 (lv_at hl 2 rfl) ?_
      refine lv_if_eq (tgt := 108) hx hb dX7_readCond_24 (by decide) (fun c47 => ?_) (fun c47 => ?_)
      · have c47 : k136 = 0 := (nI_eq (a := k136) (b := 0) (by omega) (by omega)).mp c47
        by_cases cg : k136 = 1
        · have hsk : SKs ad st so 1 → SKs ad st137 so139 1 := hv146_0 cg
          have hl : lv_has ls 7 [(6, .int (nI k134)), (5, .int (nI k135)), (4, .int 1), (0, .ref (A (20 + 4 * 1))), (1, .ref (A 1)), (2, .ref (A (36 + 20 * 0))), (3, .int 1)] := by rw [cg] at hl; exact hl
          refine lv_iload hx hb dX7_readCond_108 (lv_at hl 1 rfl) ?_
          refine lv_if_eq (tgt := 122) hx hb dX7_readCond_110 (by decide) (fun c48 => ?_) (fun c48 => ?_)
          · have c48 : k135 = 0 := (nI_eq (a := k135) (b := 0) (by omega) (by omega)).mp c48
            refine lv_iload hx hb dX7_readCond_122 (lv_at hl 2 rfl) ?_
            refine lv_if_eq (tgt := 146) hx hb dX7_readCond_124 (by decide) (fun cc => absurd cc (by decide)) (fun _ => ?_)
            refine lv_iload_n hx hb dX7_readCond_127 rfl (lv_at hl 6 rfl) ?_
            refine lv_iconst (v := 1) hx hb dX7_readCond_128 (by decide) ?_
            refine lv_icmp_ne (tgt := 146) hx hb dX7_readCond_129 (by decide) (fun cc => absurd (by decide) cc) (fun _ => ?_)
            refine lv_aload_n hx hb dX7_readCond_132 rfl (lv_at hl 4 rfl) ?_
            refine va_getN (host := "OffTheLead") (D := (dC, dI)) (ci := 9) (v := .int (st137 1 4)) (C := RX8) (T := TX8) (N := 15) hx hb hts ii_X7_readCond_X8 hown hK hP 1 (xw_is (r := 1) (by omega) (xc_fix (r := 1) (by omega))) rfl 4 (by decide) (va_Nw.use rfl (nf_X7_54 hEv)) (fun _ hh => hh) rfl dX7_readCond_133 ?_
            obtain ⟨z171, ez171⟩ : ∃ y : Int32, st137 1 4 = y := ⟨_, rfl⟩
            refine zz_top (v := z171) (by exact ez171) ?_
            refine lv_iconst (v := 3) hx hb dX7_readCond_136 (by decide) ?_
            refine lv_icmp_eq (tgt := 146) hx hb dX7_readCond_137 (by decide) (fun c51 => ?_) (fun c51 => ?_)
            · refine lv_iload hx hb dX7_readCond_146 (lv_at hl 2 rfl) ?_
              exact W.zret (v := 1) hx hb hr rfl (fun t ht hW => ⟨⟨1, (st137, sl138, so139), rfl, ⟨hG, hL, hO, Or.inl ⟨rfl, hsk⟩⟩, xB.of ht hP⟩, hS.F ht⟩) hS.2.2 dX7_readCond_148
            · refine lv_aload_n hx hb dX7_readCond_140 rfl (lv_at hl 4 rfl) ?_
              refine lv_iconst (v := 1) hx hb dX7_readCond_141 (by decide) ?_
              refine va_calli (va_runV (As := [.int 1]) (rest := []) ⟨hx, hb, hml, hown, hts⟩ (x_X8_refuse l dC dI ad E hEE A C nb _ hN st137 sl138 so139 1  hG.1) (cwV 1 hts gX7_readCond_X8_refuse rfl rfl rfl (by decide +kernel) ⟨Nat.le_of_ble_eq_true rfl, Nat.le_of_ble_eq_true rfl⟩) ⟨fun a U g mk q => ⟨q.1, xPre.blind hEE q.2⟩, va_recv hK hP (ci := 9) (q0 := 1) rfl (xw_is (r := 1) (by omega) (xc_fix (r := 1) (by omega))), fun U hU hW => ⟨rfl, xPre.of hEE hP hK hE hS hU hW⟩⟩ rfl rfl hl.1 rfl (lv_room (Nat.le_of_ble_eq_true rfl)) dX7_readCond_142 ⟨Nat.le_of_ble_eq_true rfl, Nat.le_of_ble_eq_true rfl⟩) hS (fun q _ h => XA.le hS.1 q h) (XA.le hS.1) (fun r172 x t H locs ht hvm hw hB _ _ hS => ?_)
              have hP := xB.at ht hB
              clear hB ht hvm
              obtain ⟨st173, sl174, so175⟩ := x
              obtain ⟨hGst173, hLGst173, hOst173, hw⟩ := hw
              dsimp only at hGst173 hLGst173 hOst173 hw
              have hL : LGq sl sl174 := hL.tr hLGst173
              replace hOst173 := hOst173.symm
              subst hOst173
              have hP : va_P (dC, dI) vwCl (xw A C nb st173 sl174 so139) _ := hP
              have hG : XG [1, 2, 3, 4, 5, 6, 7, 12, 13, 14, 15] st st173 := hG.tr hGst173 (by decide)
              obtain ⟨rfl, hf176⟩ := hw
              have hsk : SKs ad st so 1 → SKs ad st173 so139 1 := fun hh => SKs.mgs (hsk hh) (by omega) hGst173 (by decide) (by decide)
              exact W.zret (v := 0) hx hb hr rfl (fun t ht hW => ⟨⟨0, (st173, sl174, so139), rfl, ⟨hG, hL, hO, Or.inr (⟨rfl, by show ¬ st173 1 13 = 0; rw [hf176]; decide⟩)⟩, xB.of ht hP⟩, hS.F ht⟩) hS.2.2 dX7_readCond_145
          · have c48 : ¬ k135 = 0 := fun hh => c48 ((nI_eq (a := k135) (b := 0) (by omega) (by omega)).mpr hh)
            refine lv_aload_n hx hb dX7_readCond_113 rfl (lv_at hl 3 rfl) ?_
            refine va_gets (v := .ref (ad 13)) hx hb (EV.word hEv (i := 13) (by decide)) hS hown (hts _ mm_X7_readCond_2) (fun _ hh => hh) dX7_readCond_114 ?_
            refine lv_iconst (v := 0) hx hb dX7_readCond_117 (by decide) ?_
            refine lv_iconst (v := 0) hx hb dX7_readCond_118 (by decide) ?_
            refine va_callv (va_runV (As := [.ref (ad 13), .int 0, .int 0]) (rest := []) ⟨hx, hb, hml, hown, hts⟩ (x_X7_add l dC dI ad E hEE A C nb _ hN st137 sl138 so139 13 0 0 (by omega) hG.1 hO.1) (cwV 3 hts gX7_readCond_X7_add rfl rfl rfl (by decide +kernel) ⟨Nat.le_of_ble_eq_true rfl, Nat.le_of_ble_eq_true rfl⟩) ⟨fun a U g mk q => ⟨q.1, xPre.blind hEE q.2⟩, va_recv hK hP (ci := 8) (q0 := (20 + 4 * 1)) rfl (xw_is (r := (20 + 4 * 1)) (by omega) (xc_sn (q := 1) (o := 0) (by omega) (by omega))), fun U hU hW => ⟨rfl, xPre.of hEE hP hK hE hS hU hW⟩⟩ rfl rfl hl.1 rfl (lv_room (Nat.le_of_ble_eq_true rfl)) dX7_readCond_119 ⟨Nat.le_of_ble_eq_true rfl, Nat.le_of_ble_eq_true rfl⟩) hS (fun q _ h => XA.le hS.1 q h) (XA.le hS.1) (fun x t H locs ht hvm hw hB _ _ hS => ?_)
            have hP := xB.at ht hB
            clear hB ht hvm
            obtain ⟨st178, sl179, so180⟩ := x
            obtain ⟨hGst178, hLGst178, hOst178, hw⟩ := hw
            dsimp only at hGst178 hLGst178 hOst178 hw
            have hL : LGq sl sl179 := hL.tr hLGst178
            have hO : OG ad [2, 4] so so180 := hO.tr hOst178 (by decide)
            have hP : va_P (dC, dI) vwCl (xw A C nb st178 sl179 so180) _ := hP
            have hG : XG [1, 2, 3, 4, 5, 6, 7, 12, 13, 14, 15] st st178 := hG.tr hGst178 (by decide)
            have hf181 := hw
            have hsk : SKs ad st so 1 → SKs ad st178 so180 1 := fun hh => hf181 (hsk hh) (fun h9 => absurd h9 (by omega))
            refine lv_iload hx hb dX7_readCond_122 (lv_at hl 2 rfl) ?_
            refine lv_if_eq (tgt := 146) hx hb dX7_readCond_124 (by decide) (fun cc => absurd cc (by decide)) (fun _ => ?_)
            refine lv_iload_n hx hb dX7_readCond_127 rfl (lv_at hl 6 rfl) ?_
            refine lv_iconst (v := 1) hx hb dX7_readCond_128 (by decide) ?_
            refine lv_icmp_ne (tgt := 146) hx hb dX7_readCond_129 (by decide) (fun cc => absurd (by decide) cc) (fun _ => ?_)
            refine lv_aload_n hx hb dX7_readCond_132 rfl (lv_at hl 4 rfl) ?_
            refine va_getN (host := "OffTheLead") (D := (dC, dI)) (ci := 9) (v := .int (st178 1 4)) (C := RX8) (T := TX8) (N := 15) hx hb hts ii_X7_readCond_X8 hown hK hP 1 (xw_is (r := 1) (by omega) (xc_fix (r := 1) (by omega))) rfl 4 (by decide) (va_Nw.use rfl (nf_X7_54 hEv)) (fun _ hh => hh) rfl dX7_readCond_133 ?_
            obtain ⟨z182, ez182⟩ : ∃ y : Int32, st178 1 4 = y := ⟨_, rfl⟩
            refine zz_top (v := z182) (by exact ez182) ?_
            refine lv_iconst (v := 3) hx hb dX7_readCond_136 (by decide) ?_
            refine lv_icmp_eq (tgt := 146) hx hb dX7_readCond_137 (by decide) (fun c54 => ?_) (fun c54 => ?_)
            · refine lv_iload hx hb dX7_readCond_146 (lv_at hl 2 rfl) ?_
              exact W.zret (v := 1) hx hb hr rfl (fun t ht hW => ⟨⟨1, (st178, sl179, so180), rfl, ⟨hG, hL, hO, Or.inl ⟨rfl, hsk⟩⟩, xB.of ht hP⟩, hS.F ht⟩) hS.2.2 dX7_readCond_148
            · refine lv_aload_n hx hb dX7_readCond_140 rfl (lv_at hl 4 rfl) ?_
              refine lv_iconst (v := 1) hx hb dX7_readCond_141 (by decide) ?_
              refine va_calli (va_runV (As := [.int 1]) (rest := []) ⟨hx, hb, hml, hown, hts⟩ (x_X8_refuse l dC dI ad E hEE A C nb _ hN st178 sl179 so180 1  hG.1) (cwV 1 hts gX7_readCond_X8_refuse rfl rfl rfl (by decide +kernel) ⟨Nat.le_of_ble_eq_true rfl, Nat.le_of_ble_eq_true rfl⟩) ⟨fun a U g mk q => ⟨q.1, xPre.blind hEE q.2⟩, va_recv hK hP (ci := 9) (q0 := 1) rfl (xw_is (r := 1) (by omega) (xc_fix (r := 1) (by omega))), fun U hU hW => ⟨rfl, xPre.of hEE hP hK hE hS hU hW⟩⟩ rfl rfl hl.1 rfl (lv_room (Nat.le_of_ble_eq_true rfl)) dX7_readCond_142 ⟨Nat.le_of_ble_eq_true rfl, Nat.le_of_ble_eq_true rfl⟩) hS (fun q _ h => XA.le hS.1 q h) (XA.le hS.1) (fun r183 x t H locs ht hvm hw hB _ _ hS => ?_)
              have hP := xB.at ht hB
              clear hB ht hvm
              obtain ⟨st184, sl185, so186⟩ := x
              obtain ⟨hGst184, hLGst184, hOst184, hw⟩ := hw
              dsimp only at hGst184 hLGst184 hOst184 hw
              have hL : LGq sl sl185 := hL.tr hLGst184
              replace hOst184 := hOst184.symm
              subst hOst184
              have hP : va_P (dC, dI) vwCl (xw A C nb st184 sl185 so180) _ := hP
              have hG : XG [1, 2, 3, 4, 5, 6, 7, 12, 13, 14, 15] st st184 := hG.tr hGst184 (by decide)
              obtain ⟨rfl, hf187⟩ := hw
              have hsk : SKs ad st so 1 → SKs ad st184 so180 1 := fun hh => SKs.mgs (hsk hh) (by omega) hGst184 (by decide) (by decide)
              exact W.zret (v := 0) hx hb hr rfl (fun t ht hW => ⟨⟨0, (st184, sl185, so180), rfl, ⟨hG, hL, hO, Or.inr (⟨rfl, by show ¬ st184 1 13 = 0; rw [hf187]; decide⟩)⟩, xB.of ht hP⟩, hS.F ht⟩) hS.2.2 dX7_readCond_145
        · have cg : k136 = 0 := by omega
          have hfa : ¬ st137 1 13 = 0 := hv147_1 cg
          have hl : lv_has ls 7 [(6, .int (nI k134)), (5, .int (nI k135)), (4, .int 0), (0, .ref (A (20 + 4 * 1))), (1, .ref (A 1)), (2, .ref (A (36 + 20 * 0))), (3, .int 1)] := by rw [cg] at hl; exact hl
          refine lv_iload hx hb dX7_readCond_108 (lv_at hl 1 rfl) ?_
          refine lv_if_eq (tgt := 122) hx hb dX7_readCond_110 (by decide) (fun c55 => ?_) (fun c55 => ?_)
          · have c55 : k135 = 0 := (nI_eq (a := k135) (b := 0) (by omega) (by omega)).mp c55
            refine lv_iload hx hb dX7_readCond_122 (lv_at hl 2 rfl) ?_
            refine lv_if_eq (tgt := 146) hx hb dX7_readCond_124 (by decide) (fun _ => ?_) (fun cc => absurd (by decide) cc)
            refine lv_iload hx hb dX7_readCond_146 (lv_at hl 2 rfl) ?_
            exact W.zret (v := 0) hx hb hr rfl (fun t ht hW => ⟨⟨0, (st137, sl138, so139), rfl, ⟨hG, hL, hO, Or.inr (⟨rfl, by show ¬ st137 1 13 = 0; exact hfa⟩)⟩, xB.of ht hP⟩, hS.F ht⟩) hS.2.2 dX7_readCond_148
          · have c55 : ¬ k135 = 0 := fun hh => c55 ((nI_eq (a := k135) (b := 0) (by omega) (by omega)).mpr hh)
            refine lv_aload_n hx hb dX7_readCond_113 rfl (lv_at hl 3 rfl) ?_
            refine va_gets (v := .ref (ad 13)) hx hb (EV.word hEv (i := 13) (by decide)) hS hown (hts _ mm_X7_readCond_2) (fun _ hh => hh) dX7_readCond_114 ?_
            refine lv_iconst (v := 0) hx hb dX7_readCond_117 (by decide) ?_
            refine lv_iconst (v := 0) hx hb dX7_readCond_118 (by decide) ?_
            refine va_callv (va_runV (As := [.ref (ad 13), .int 0, .int 0]) (rest := []) ⟨hx, hb, hml, hown, hts⟩ (x_X7_add l dC dI ad E hEE A C nb _ hN st137 sl138 so139 13 0 0 (by omega) hG.1 hO.1) (cwV 3 hts gX7_readCond_X7_add rfl rfl rfl (by decide +kernel) ⟨Nat.le_of_ble_eq_true rfl, Nat.le_of_ble_eq_true rfl⟩) ⟨fun a U g mk q => ⟨q.1, xPre.blind hEE q.2⟩, va_recv hK hP (ci := 8) (q0 := (20 + 4 * 1)) rfl (xw_is (r := (20 + 4 * 1)) (by omega) (xc_sn (q := 1) (o := 0) (by omega) (by omega))), fun U hU hW => ⟨rfl, xPre.of hEE hP hK hE hS hU hW⟩⟩ rfl rfl hl.1 rfl (lv_room (Nat.le_of_ble_eq_true rfl)) dX7_readCond_119 ⟨Nat.le_of_ble_eq_true rfl, Nat.le_of_ble_eq_true rfl⟩) hS (fun q _ h => XA.le hS.1 q h) (XA.le hS.1) (fun x t H locs ht hvm hw hB _ _ hS => ?_)
            have hP := xB.at ht hB
            clear hB ht hvm
            obtain ⟨st189, sl190, so191⟩ := x
            obtain ⟨hGst189, hLGst189, hOst189, hw⟩ := hw
            dsimp only at hGst189 hLGst189 hOst189 hw
            have hL : LGq sl sl190 := hL.tr hLGst189
            have hO : OG ad [2, 4] so so191 := hO.tr hOst189 (by decide)
            have hP : va_P (dC, dI) vwCl (xw A C nb st189 sl190 so191) _ := hP
            have hG : XG [1, 2, 3, 4, 5, 6, 7, 12, 13, 14, 15] st st189 := hG.tr hGst189 (by decide)
            have hf192 := hw
            refine lv_iload hx hb dX7_readCond_122 (lv_at hl 2 rfl) ?_
            refine lv_if_eq (tgt := 146) hx hb dX7_readCond_124 (by decide) (fun _ => ?_) (fun cc => absurd (by decide) cc)
            refine lv_iload hx hb dX7_readCond_146 (lv_at hl 2 rfl) ?_
            exact W.zret (v := 0) hx hb hr rfl (fun t ht hW => ⟨⟨0, (st189, sl190, so191), rfl, ⟨hG, hL, hO, Or.inr (⟨rfl, by show ¬ st189 1 13 = 0; rw [hGst189.2 1 13 (by rw [(by decide : xcl 1 13 = 10)]; decide)]; exact hfa⟩)⟩, xB.of ht hP⟩, hS.F ht⟩) hS.2.2 dX7_readCond_148
      · have c47 : ¬ k136 = 0 := fun hh => c47 ((nI_eq (a := k136) (b := 0) (by omega) (by omega)).mpr hh)
        have hsk : SKs ad st so 1 → SKs ad st137 so139 1 := hv146_0 (by omega)
        refine lv_aload_n hx hb dX7_readCond_27 rfl (lv_at hl 4 rfl) ?_
        refine va_getN (host := "OffTheLead") (D := (dC, dI)) (ci := 9) (v := va_rf (so139 1 7)) (C := RX8) (T := TX8) (N := 15) hx hb hts ii_X7_readCond_X8 hown hK hP 1 (xw_is (r := 1) (by omega) (xc_fix (r := 1) (by omega))) rfl 7 (by decide) (va_Nw.use rfl (nf_X7_35 hEv)) (fun _ hh => hh) rfl dX7_readCond_28 ?_
        obtain ⟨j193, hj193, ej193⟩ := hO.1.2
        refine zz_topq (r := some (ad j193)) (by rw [ej193]) ?_
        refine va_gets (v := .ref (ad 14)) hx hb (EV.word hEv (i := 14) (by decide)) hS hown (hts _ mm_X7_readCond_1) (fun _ hh => hh) dX7_readCond_31 ?_
        refine lv_acmp_ne (rx := (some (ad j193))) (ry := (some (ad 14))) (tgt := 62) hx hb dX7_readCond_34 (by decide) (fun c58 => ?_) (fun c58 => ?_)
        · have c58 : ¬ j193 = 14 := fun hh => c58 ((EV.eqw hEv (i := j193) (j := 14) (by omega) (by omega)).mpr hh)
          refine lv_aload_n hx hb dX7_readCond_62 rfl (lv_at hl 4 rfl) ?_
          refine va_getN (host := "OffTheLead") (D := (dC, dI)) (ci := 9) (v := va_rf (so139 1 7)) (C := RX8) (T := TX8) (N := 15) hx hb hts ii_X7_readCond_X8 hown hK hP 1 (xw_is (r := 1) (by omega) (xc_fix (r := 1) (by omega))) rfl 7 (by decide) (va_Nw.use rfl (nf_X7_35 hEv)) (fun _ hh => hh) rfl dX7_readCond_63 ?_
          refine zz_topq (r := some (ad j193)) (by rw [ej193]) ?_
          refine va_gets (v := .ref (ad 13)) hx hb (EV.word hEv (i := 13) (by decide)) hS hown (hts _ mm_X7_readCond_2) (fun _ hh => hh) dX7_readCond_66 ?_
          refine lv_acmp_ne (rx := (some (ad j193))) (ry := (some (ad 13))) (tgt := 108) hx hb dX7_readCond_69 (by decide) (fun c59 => ?_) (fun c59 => ?_)
          · have c59 : ¬ j193 = 13 := fun hh => c59 ((EV.eqw hEv (i := j193) (j := 13) (by omega) (by omega)).mpr hh)
            by_cases cg : k136 = 1
            · have hsk : SKs ad st so 1 → SKs ad st137 so139 1 := hv146_0 cg
              have hl : lv_has ls 7 [(6, .int (nI k134)), (5, .int (nI k135)), (4, .int 1), (0, .ref (A (20 + 4 * 1))), (1, .ref (A 1)), (2, .ref (A (36 + 20 * 0))), (3, .int 1)] := by rw [cg] at hl; exact hl
              refine lv_iload hx hb dX7_readCond_108 (lv_at hl 1 rfl) ?_
              refine lv_if_eq (tgt := 122) hx hb dX7_readCond_110 (by decide) (fun c60 => ?_) (fun c60 => ?_)
              · have c60 : k135 = 0 := (nI_eq (a := k135) (b := 0) (by omega) (by omega)).mp c60
                refine lv_iload hx hb dX7_readCond_122 (lv_at hl 2 rfl) ?_
                refine lv_if_eq (tgt := 146) hx hb dX7_readCond_124 (by decide) (fun cc => absurd cc (by decide)) (fun _ => ?_)
                refine lv_iload_n hx hb dX7_readCond_127 rfl (lv_at hl 6 rfl) ?_
                refine lv_iconst (v := 1) hx hb dX7_readCond_128 (by decide) ?_
                refine lv_icmp_ne (tgt := 146) hx hb dX7_readCond_129 (by decide) (fun cc => absurd (by decide) cc) (fun _ => ?_)
                refine lv_aload_n hx hb dX7_readCond_132 rfl (lv_at hl 4 rfl) ?_
                refine va_getN (host := "OffTheLead") (D := (dC, dI)) (ci := 9) (v := .int (st137 1 4)) (C := RX8) (T := TX8) (N := 15) hx hb hts ii_X7_readCond_X8 hown hK hP 1 (xw_is (r := 1) (by omega) (xc_fix (r := 1) (by omega))) rfl 4 (by decide) (va_Nw.use rfl (nf_X7_54 hEv)) (fun _ hh => hh) rfl dX7_readCond_133 ?_
                obtain ⟨z194, ez194⟩ : ∃ y : Int32, st137 1 4 = y := ⟨_, rfl⟩
                refine zz_top (v := z194) (by exact ez194) ?_
                refine lv_iconst (v := 3) hx hb dX7_readCond_136 (by decide) ?_
                refine lv_icmp_eq (tgt := 146) hx hb dX7_readCond_137 (by decide) (fun c63 => ?_) (fun c63 => ?_)
                · refine lv_iload hx hb dX7_readCond_146 (lv_at hl 2 rfl) ?_
                  exact W.zret (v := 1) hx hb hr rfl (fun t ht hW => ⟨⟨1, (st137, sl138, so139), rfl, ⟨hG, hL, hO, Or.inl ⟨rfl, hsk⟩⟩, xB.of ht hP⟩, hS.F ht⟩) hS.2.2 dX7_readCond_148
                · refine lv_aload_n hx hb dX7_readCond_140 rfl (lv_at hl 4 rfl) ?_
                  refine lv_iconst (v := 1) hx hb dX7_readCond_141 (by decide) ?_
                  refine va_calli (va_runV (As := [.int 1]) (rest := []) ⟨hx, hb, hml, hown, hts⟩ (x_X8_refuse l dC dI ad E hEE A C nb _ hN st137 sl138 so139 1  hG.1) (cwV 1 hts gX7_readCond_X8_refuse rfl rfl rfl (by decide +kernel) ⟨Nat.le_of_ble_eq_true rfl, Nat.le_of_ble_eq_true rfl⟩) ⟨fun a U g mk q => ⟨q.1, xPre.blind hEE q.2⟩, va_recv hK hP (ci := 9) (q0 := 1) rfl (xw_is (r := 1) (by omega) (xc_fix (r := 1) (by omega))), fun U hU hW => ⟨rfl, xPre.of hEE hP hK hE hS hU hW⟩⟩ rfl rfl hl.1 rfl (lv_room (Nat.le_of_ble_eq_true rfl)) dX7_readCond_142 ⟨Nat.le_of_ble_eq_true rfl, Nat.le_of_ble_eq_true rfl⟩) hS (fun q _ h => XA.le hS.1 q h) (XA.le hS.1) (fun r195 x t H locs ht hvm hw hB _ _ hS => ?_)
                  have hP := xB.at ht hB
                  clear hB ht hvm
                  obtain ⟨st196, sl197, so198⟩ := x
                  obtain ⟨hGst196, hLGst196, hOst196, hw⟩ := hw
                  dsimp only at hGst196 hLGst196 hOst196 hw
                  have hL : LGq sl sl197 := hL.tr hLGst196
                  replace hOst196 := hOst196.symm
                  subst hOst196
                  have hP : va_P (dC, dI) vwCl (xw A C nb st196 sl197 so139) _ := hP
                  have hG : XG [1, 2, 3, 4, 5, 6, 7, 12, 13, 14, 15] st st196 := hG.tr hGst196 (by decide)
                  obtain ⟨rfl, hf199⟩ := hw
                  have hsk : SKs ad st so 1 → SKs ad st196 so139 1 := fun hh => SKs.mgs (hsk hh) (by omega) hGst196 (by decide) (by decide)
                  exact W.zret (v := 0) hx hb hr rfl (fun t ht hW => ⟨⟨0, (st196, sl197, so139), rfl, ⟨hG, hL, hO, Or.inr (⟨rfl, by show ¬ st196 1 13 = 0; rw [hf199]; decide⟩)⟩, xB.of ht hP⟩, hS.F ht⟩) hS.2.2 dX7_readCond_145
              · have c60 : ¬ k135 = 0 := fun hh => c60 ((nI_eq (a := k135) (b := 0) (by omega) (by omega)).mpr hh)
                refine lv_aload_n hx hb dX7_readCond_113 rfl (lv_at hl 3 rfl) ?_
                refine va_gets (v := .ref (ad 13)) hx hb (EV.word hEv (i := 13) (by decide)) hS hown (hts _ mm_X7_readCond_2) (fun _ hh => hh) dX7_readCond_114 ?_
                refine lv_iconst (v := 0) hx hb dX7_readCond_117 (by decide) ?_
                refine lv_iconst (v := 0) hx hb dX7_readCond_118 (by decide) ?_
                refine va_callv (va_runV (As := [.ref (ad 13), .int 0, .int 0]) (rest := []) ⟨hx, hb, hml, hown, hts⟩ (x_X7_add l dC dI ad E hEE A C nb _ hN st137 sl138 so139 13 0 0 (by omega) hG.1 hO.1) (cwV 3 hts gX7_readCond_X7_add rfl rfl rfl (by decide +kernel) ⟨Nat.le_of_ble_eq_true rfl, Nat.le_of_ble_eq_true rfl⟩) ⟨fun a U g mk q => ⟨q.1, xPre.blind hEE q.2⟩, va_recv hK hP (ci := 8) (q0 := (20 + 4 * 1)) rfl (xw_is (r := (20 + 4 * 1)) (by omega) (xc_sn (q := 1) (o := 0) (by omega) (by omega))), fun U hU hW => ⟨rfl, xPre.of hEE hP hK hE hS hU hW⟩⟩ rfl rfl hl.1 rfl (lv_room (Nat.le_of_ble_eq_true rfl)) dX7_readCond_119 ⟨Nat.le_of_ble_eq_true rfl, Nat.le_of_ble_eq_true rfl⟩) hS (fun q _ h => XA.le hS.1 q h) (XA.le hS.1) (fun x t H locs ht hvm hw hB _ _ hS => ?_)
                have hP := xB.at ht hB
                clear hB ht hvm
                obtain ⟨st201, sl202, so203⟩ := x
                obtain ⟨hGst201, hLGst201, hOst201, hw⟩ := hw
                dsimp only at hGst201 hLGst201 hOst201 hw
                have hL : LGq sl sl202 := hL.tr hLGst201
                have hO : OG ad [2, 4] so so203 := hO.tr hOst201 (by decide)
                have hP : va_P (dC, dI) vwCl (xw A C nb st201 sl202 so203) _ := hP
                have hG : XG [1, 2, 3, 4, 5, 6, 7, 12, 13, 14, 15] st st201 := hG.tr hGst201 (by decide)
                have hf204 := hw
                have hsk : SKs ad st so 1 → SKs ad st201 so203 1 := fun hh => hf204 (hsk hh) (fun h9 => absurd h9 (by omega))
                refine lv_iload hx hb dX7_readCond_122 (lv_at hl 2 rfl) ?_
                refine lv_if_eq (tgt := 146) hx hb dX7_readCond_124 (by decide) (fun cc => absurd cc (by decide)) (fun _ => ?_)
                refine lv_iload_n hx hb dX7_readCond_127 rfl (lv_at hl 6 rfl) ?_
                refine lv_iconst (v := 1) hx hb dX7_readCond_128 (by decide) ?_
                refine lv_icmp_ne (tgt := 146) hx hb dX7_readCond_129 (by decide) (fun cc => absurd (by decide) cc) (fun _ => ?_)
                refine lv_aload_n hx hb dX7_readCond_132 rfl (lv_at hl 4 rfl) ?_
                refine va_getN (host := "OffTheLead") (D := (dC, dI)) (ci := 9) (v := .int (st201 1 4)) (C := RX8) (T := TX8) (N := 15) hx hb hts ii_X7_readCond_X8 hown hK hP 1 (xw_is (r := 1) (by omega) (xc_fix (r := 1) (by omega))) rfl 4 (by decide) (va_Nw.use rfl (nf_X7_54 hEv)) (fun _ hh => hh) rfl dX7_readCond_133 ?_
                obtain ⟨z205, ez205⟩ : ∃ y : Int32, st201 1 4 = y := ⟨_, rfl⟩
                refine zz_top (v := z205) (by exact ez205) ?_
                refine lv_iconst (v := 3) hx hb dX7_readCond_136 (by decide) ?_
                refine lv_icmp_eq (tgt := 146) hx hb dX7_readCond_137 (by decide) (fun c66 => ?_) (fun c66 => ?_)
                · refine lv_iload hx hb dX7_readCond_146 (lv_at hl 2 rfl) ?_
                  exact W.zret (v := 1) hx hb hr rfl (fun t ht hW => ⟨⟨1, (st201, sl202, so203), rfl, ⟨hG, hL, hO, Or.inl ⟨rfl, hsk⟩⟩, xB.of ht hP⟩, hS.F ht⟩) hS.2.2 dX7_readCond_148
                · refine lv_aload_n hx hb dX7_readCond_140 rfl (lv_at hl 4 rfl) ?_
                  refine lv_iconst (v := 1) hx hb dX7_readCond_141 (by decide) ?_
                  refine va_calli (va_runV (As := [.int 1]) (rest := []) ⟨hx, hb, hml, hown, hts⟩ (x_X8_refuse l dC dI ad E hEE A C nb _ hN st201 sl202 so203 1  hG.1) (cwV 1 hts gX7_readCond_X8_refuse rfl rfl rfl (by decide +kernel) ⟨Nat.le_of_ble_eq_true rfl, Nat.le_of_ble_eq_true rfl⟩) ⟨fun a U g mk q => ⟨q.1, xPre.blind hEE q.2⟩, va_recv hK hP (ci := 9) (q0 := 1) rfl (xw_is (r := 1) (by omega) (xc_fix (r := 1) (by omega))), fun U hU hW => ⟨rfl, xPre.of hEE hP hK hE hS hU hW⟩⟩ rfl rfl hl.1 rfl (lv_room (Nat.le_of_ble_eq_true rfl)) dX7_readCond_142 ⟨Nat.le_of_ble_eq_true rfl, Nat.le_of_ble_eq_true rfl⟩) hS (fun q _ h => XA.le hS.1 q h) (XA.le hS.1) (fun r206 x t H locs ht hvm hw hB _ _ hS => ?_)
                  have hP := xB.at ht hB
                  clear hB ht hvm
                  obtain ⟨st207, sl208, so209⟩ := x
                  obtain ⟨hGst207, hLGst207, hOst207, hw⟩ := hw
                  dsimp only at hGst207 hLGst207 hOst207 hw
                  have hL : LGq sl sl208 := hL.tr hLGst207
                  replace hOst207 := hOst207.symm
                  subst hOst207
                  have hP : va_P (dC, dI) vwCl (xw A C nb st207 sl208 so203) _ := hP
                  have hG : XG [1, 2, 3, 4, 5, 6, 7, 12, 13, 14, 15] st st207 := hG.tr hGst207 (by decide)
                  obtain ⟨rfl, hf210⟩ := hw
                  have hsk : SKs ad st so 1 → SKs ad st207 so203 1 := fun hh => SKs.mgs (hsk hh) (by omega) hGst207 (by decide) (by decide)
                  exact W.zret (v := 0) hx hb hr rfl (fun t ht hW => ⟨⟨0, (st207, sl208, so203), rfl, ⟨hG, hL, hO, Or.inr (⟨rfl, by show ¬ st207 1 13 = 0; rw [hf210]; decide⟩)⟩, xB.of ht hP⟩, hS.F ht⟩) hS.2.2 dX7_readCond_145
            · have cg : k136 = 0 := by omega
              have hfa : ¬ st137 1 13 = 0 := hv147_1 cg
              have hl : lv_has ls 7 [(6, .int (nI k134)), (5, .int (nI k135)), (4, .int 0), (0, .ref (A (20 + 4 * 1))), (1, .ref (A 1)), (2, .ref (A (36 + 20 * 0))), (3, .int 1)] := by rw [cg] at hl; exact hl
              refine lv_iload hx hb dX7_readCond_108 (lv_at hl 1 rfl) ?_
              refine lv_if_eq (tgt := 122) hx hb dX7_readCond_110 (by decide) (fun c67 => ?_) (fun c67 => ?_)
              · have c67 : k135 = 0 := (nI_eq (a := k135) (b := 0) (by omega) (by omega)).mp c67
                refine lv_iload hx hb dX7_readCond_122 (lv_at hl 2 rfl) ?_
                refine lv_if_eq (tgt := 146) hx hb dX7_readCond_124 (by decide) (fun _ => ?_) (fun cc => absurd (by decide) cc)
                refine lv_iload hx hb dX7_readCond_146 (lv_at hl 2 rfl) ?_
                exact W.zret (v := 0) hx hb hr rfl (fun t ht hW => ⟨⟨0, (st137, sl138, so139), rfl, ⟨hG, hL, hO, Or.inr (⟨rfl, by show ¬ st137 1 13 = 0; exact hfa⟩)⟩, xB.of ht hP⟩, hS.F ht⟩) hS.2.2 dX7_readCond_148
              · have c67 : ¬ k135 = 0 := fun hh => c67 ((nI_eq (a := k135) (b := 0) (by omega) (by omega)).mpr hh)
                refine lv_aload_n hx hb dX7_readCond_113 rfl (lv_at hl 3 rfl) ?_
                refine va_gets (v := .ref (ad 13)) hx hb (EV.word hEv (i := 13) (by decide)) hS hown (hts _ mm_X7_readCond_2) (fun _ hh => hh) dX7_readCond_114 ?_
                refine lv_iconst (v := 0) hx hb dX7_readCond_117 (by decide) ?_
                refine lv_iconst (v := 0) hx hb dX7_readCond_118 (by decide) ?_
                refine va_callv (va_runV (As := [.ref (ad 13), .int 0, .int 0]) (rest := []) ⟨hx, hb, hml, hown, hts⟩ (x_X7_add l dC dI ad E hEE A C nb _ hN st137 sl138 so139 13 0 0 (by omega) hG.1 hO.1) (cwV 3 hts gX7_readCond_X7_add rfl rfl rfl (by decide +kernel) ⟨Nat.le_of_ble_eq_true rfl, Nat.le_of_ble_eq_true rfl⟩) ⟨fun a U g mk q => ⟨q.1, xPre.blind hEE q.2⟩, va_recv hK hP (ci := 8) (q0 := (20 + 4 * 1)) rfl (xw_is (r := (20 + 4 * 1)) (by omega) (xc_sn (q := 1) (o := 0) (by omega) (by omega))), fun U hU hW => ⟨rfl, xPre.of hEE hP hK hE hS hU hW⟩⟩ rfl rfl hl.1 rfl (lv_room (Nat.le_of_ble_eq_true rfl)) dX7_readCond_119 ⟨Nat.le_of_ble_eq_true rfl, Nat.le_of_ble_eq_true rfl⟩) hS (fun q _ h => XA.le hS.1 q h) (XA.le hS.1) (fun x t H locs ht hvm hw hB _ _ hS => ?_)
                have hP := xB.at ht hB
                clear hB ht hvm
                obtain ⟨st212, sl213, so214⟩ := x
                obtain ⟨hGst212, hLGst212, hOst212, hw⟩ := hw
                dsimp only at hGst212 hLGst212 hOst212 hw
                have hL : LGq sl sl213 := hL.tr hLGst212
                have hO : OG ad [2, 4] so so214 := hO.tr hOst212 (by decide)
                have hP : va_P (dC, dI) vwCl (xw A C nb st212 sl213 so214) _ := hP
                have hG : XG [1, 2, 3, 4, 5, 6, 7, 12, 13, 14, 15] st st212 := hG.tr hGst212 (by decide)
                have hf215 := hw
                refine lv_iload hx hb dX7_readCond_122 (lv_at hl 2 rfl) ?_
                refine lv_if_eq (tgt := 146) hx hb dX7_readCond_124 (by decide) (fun _ => ?_) (fun cc => absurd (by decide) cc)
                refine lv_iload hx hb dX7_readCond_146 (lv_at hl 2 rfl) ?_
                exact W.zret (v := 0) hx hb hr rfl (fun t ht hW => ⟨⟨0, (st212, sl213, so214), rfl, ⟨hG, hL, hO, Or.inr (⟨rfl, by show ¬ st212 1 13 = 0; rw [hGst212.2 1 13 (by rw [(by decide : xcl 1 13 = 10)]; decide)]; exact hfa⟩)⟩, xB.of ht hP⟩, hS.F ht⟩) hS.2.2 dX7_readCond_148
          · have c59 : j193 = 13 := (EV.eqw hEv (i := j193) (j := 13) (by omega) (by omega)).mp c59
            refine lv_iload hx hb dX7_readCond_72 (lv_at hl 1 rfl) ?_
            refine lv_if_eq (tgt := 86) hx hb dX7_readCond_74 (by decide) (fun c70 => ?_) (fun c70 => ?_)
            · have c70 : k135 = 0 := (nI_eq (a := k135) (b := 0) (by omega) (by omega)).mp c70
              refine lv_iconst (v := 1) hx hb dX7_readCond_86 (by decide) ?_
              refine lv_istore (lv' := [(5, .int 1), (6, .int (nI k134)), (4, .int (nI k136)), (0, .ref (A (20 + 4 * 1))), (1, .ref (A 1)), (2, .ref (A (36 + 20 * 0))), (3, .int 1)]) hx hb dX7_readCond_87 hl (by decide) rfl (fun ls hl => ?_)
              refine lv_aload_n hx hb dX7_readCond_89 rfl (lv_at hl 4 rfl) ?_
              refine va_callv (va_runV (As := []) (rest := []) ⟨hx, hb, hml, hown, hts⟩ (x_X8_step l dC dI ad E hEE A C nb _ hN st137 sl138 so139  hG.1 hO.1) (cwV 0 hts gX7_readCond_X8_step rfl rfl rfl (by decide +kernel) ⟨Nat.le_of_ble_eq_true rfl, Nat.le_of_ble_eq_true rfl⟩) ⟨fun a U g mk q => ⟨q.1, xPre.blind hEE q.2⟩, va_recv hK hP (ci := 9) (q0 := 1) rfl (xw_is (r := 1) (by omega) (xc_fix (r := 1) (by omega))), fun U hU hW => ⟨rfl, xPre.of hEE hP hK hE hS hU hW⟩⟩ rfl rfl hl.1 rfl (lv_room (Nat.le_of_ble_eq_true rfl)) dX7_readCond_90 ⟨Nat.le_of_ble_eq_true rfl, Nat.le_of_ble_eq_true rfl⟩) hS (fun q _ h => XA.le hS.1 q h) (XA.le hS.1) (fun x t H locs ht hvm hw hB _ _ hS => ?_)
              have hP := xB.at ht hB
              clear hB ht hvm
              obtain ⟨st217, sl218, so219⟩ := x
              obtain ⟨hGst217, hLGst217, hOst217, hw⟩ := hw
              dsimp only at hGst217 hLGst217 hOst217 hw
              have hL : LGq sl sl218 := hL.tr hLGst217
              have hO : OG ad [2, 4] so so219 := hO.tr hOst217 (by decide)
              have hP : va_P (dC, dI) vwCl (xw A C nb st217 sl218 so219) _ := hP
              have hG : XG [1, 2, 3, 4, 5, 6, 7, 12, 13, 14, 15] st st217 := hG.tr hGst217 (by decide)
              clear hw
              have hsk : SKs ad st so 1 → SKs ad st217 so219 1 := fun hh => SKs.mg (hsk hh) (by omega) hGst217 hOst217 (by decide) (by decide) (by decide)
              refine lv_aload_n hx hb dX7_readCond_93 rfl (lv_at hl 3 rfl) ?_
              refine lv_aload_n hx hb dX7_readCond_94 rfl (lv_at hl 4 rfl) ?_
              refine lv_aload_n hx hb dX7_readCond_95 rfl (lv_at hl 5 rfl) ?_
              refine lv_iload_n hx hb dX7_readCond_96 rfl (lv_at hl 6 rfl) ?_
              refine va_calli (va_runV (As := [.ref (A 1), .ref (A (36 + 20 * 0)), .int 1]) (rest := []) ⟨hx, hb, hml, hown, hts⟩ (x_readOne_1 l dC dI ad E hEE A C nb _ hN st217 sl218 so219  hG.1 hO.1) (cwV 3 hts gX7_readCond_X7_readOne rfl rfl rfl (by decide +kernel) ⟨Nat.le_of_ble_eq_true rfl, Nat.le_of_ble_eq_true rfl⟩) ⟨fun a U g mk q => ⟨q.1, xPre.blind hEE q.2⟩, va_recv hK hP (ci := 8) (q0 := (20 + 4 * 1)) rfl (xw_is (r := (20 + 4 * 1)) (by omega) (xc_sn (q := 1) (o := 0) (by omega) (by omega))), fun U hU hW => ⟨rfl, xPre.of hEE hP hK hE hS hU hW⟩⟩ rfl rfl hl.1 rfl (lv_room (Nat.le_of_ble_eq_true rfl)) dX7_readCond_97 ⟨Nat.le_of_ble_eq_true rfl, Nat.le_of_ble_eq_true rfl⟩) hS (fun q _ h => XA.le hS.1 q h) (XA.le hS.1) (fun r220 x t H locs ht hvm hw hB _ _ hS => ?_)
              have hP := xB.at ht hB
              clear hB ht hvm
              obtain ⟨st221, sl222, so223⟩ := x
              obtain ⟨hGst221, hLGst221, hOst221, hw⟩ := hw
              dsimp only at hGst221 hLGst221 hOst221 hw
              have hL : LGq sl sl222 := hL.tr hLGst221
              have hO : OG ad [2, 4] so so223 := hO.tr hOst221 (by decide)
              have hP : va_P (dC, dI) vwCl (xw A C nb st221 sl222 so223) _ := hP
              have hG : XG [1, 2, 3, 4, 5, 6, 7, 12, 13, 14, 15] st st221 := hG.tr hGst221 (by decide)
              rcases hw with ⟨rfl, hf224⟩ | ⟨rfl, hf225⟩
              · have hsk : SKs ad st so 1 → SKs ad st221 so223 1 := fun hh => hf224 (hsk hh)
                refine lv_istore (lv' := [(4, .int 1), (5, .int 1), (6, .int (nI k134)), (0, .ref (A (20 + 4 * 1))), (1, .ref (A 1)), (2, .ref (A (36 + 20 * 0))), (3, .int 1)]) hx hb dX7_readCond_100 hl (by decide) rfl (fun ls hl => ?_)
                refine lv_iinc (v := (nI (k134 + 1))) (lv' := [(6, .int (nI (k134 + 1))), (4, .int 1), (5, .int 1), (0, .ref (A (20 + 4 * 1))), (1, .ref (A 1)), (2, .ref (A (36 + 20 * 0))), (3, .int 1)]) hx hb dX7_readCond_102 hl (k := 2) rfl (nI_add k134 1) (by decide) rfl (fun ls hl => ?_)
                refine lv_goto (tgt := 15) hx hb dX7_readCond_105 (by decide) ?_
                exact ih148 (21 - (k134 + 1)) _ _ _ _ (by omega) ⟨(k134 + 1), 1, 1, st221, sl222, so223, rfl, by omega, by omega, by omega, by omega, by omega, by omega, fun _ => hsk, fun h9 => absurd h9 (by omega), hP, hG, hO, hL, hS, lv_sub hl [0, 2, 1, 3, 4, 5, 6] rfl, rfl⟩
              · refine lv_istore (lv' := [(4, .int 0), (5, .int 1), (6, .int (nI k134)), (0, .ref (A (20 + 4 * 1))), (1, .ref (A 1)), (2, .ref (A (36 + 20 * 0))), (3, .int 1)]) hx hb dX7_readCond_100 hl (by decide) rfl (fun ls hl => ?_)
                refine lv_iinc (v := (nI (k134 + 1))) (lv' := [(6, .int (nI (k134 + 1))), (4, .int 0), (5, .int 1), (0, .ref (A (20 + 4 * 1))), (1, .ref (A 1)), (2, .ref (A (36 + 20 * 0))), (3, .int 1)]) hx hb dX7_readCond_102 hl (k := 2) rfl (nI_add k134 1) (by decide) rfl (fun ls hl => ?_)
                refine lv_goto (tgt := 15) hx hb dX7_readCond_105 (by decide) ?_
                exact ih148 (21 - (k134 + 1)) _ _ _ _ (by omega) ⟨(k134 + 1), 1, 0, st221, sl222, so223, rfl, by omega, by omega, by omega, by omega, by omega, by omega, fun h9 => absurd h9 (by omega), fun _ => by show ¬ st221 1 13 = 0; exact hf225, hP, hG, hO, hL, hS, lv_sub hl [0, 2, 1, 3, 4, 5, 6] rfl, rfl⟩
            · have c70 : ¬ k135 = 0 := fun hh => c70 ((nI_eq (a := k135) (b := 0) (by omega) (by omega)).mpr hh)
              refine lv_aload_n hx hb dX7_readCond_77 rfl (lv_at hl 3 rfl) ?_
              refine va_gets (v := .ref (ad 13)) hx hb (EV.word hEv (i := 13) (by decide)) hS hown (hts _ mm_X7_readCond_2) (fun _ hh => hh) dX7_readCond_78 ?_
              refine lv_iconst (v := 0) hx hb dX7_readCond_81 (by decide) ?_
              refine lv_iconst (v := 0) hx hb dX7_readCond_82 (by decide) ?_
              refine va_callv (va_runV (As := [.ref (ad 13), .int 0, .int 0]) (rest := []) ⟨hx, hb, hml, hown, hts⟩ (x_X7_add l dC dI ad E hEE A C nb _ hN st137 sl138 so139 13 0 0 (by omega) hG.1 hO.1) (cwV 3 hts gX7_readCond_X7_add rfl rfl rfl (by decide +kernel) ⟨Nat.le_of_ble_eq_true rfl, Nat.le_of_ble_eq_true rfl⟩) ⟨fun a U g mk q => ⟨q.1, xPre.blind hEE q.2⟩, va_recv hK hP (ci := 8) (q0 := (20 + 4 * 1)) rfl (xw_is (r := (20 + 4 * 1)) (by omega) (xc_sn (q := 1) (o := 0) (by omega) (by omega))), fun U hU hW => ⟨rfl, xPre.of hEE hP hK hE hS hU hW⟩⟩ rfl rfl hl.1 rfl (lv_room (Nat.le_of_ble_eq_true rfl)) dX7_readCond_83 ⟨Nat.le_of_ble_eq_true rfl, Nat.le_of_ble_eq_true rfl⟩) hS (fun q _ h => XA.le hS.1 q h) (XA.le hS.1) (fun x t H locs ht hvm hw hB _ _ hS => ?_)
              have hP := xB.at ht hB
              clear hB ht hvm
              obtain ⟨st227, sl228, so229⟩ := x
              obtain ⟨hGst227, hLGst227, hOst227, hw⟩ := hw
              dsimp only at hGst227 hLGst227 hOst227 hw
              have hL : LGq sl sl228 := hL.tr hLGst227
              have hO : OG ad [2, 4] so so229 := hO.tr hOst227 (by decide)
              have hP : va_P (dC, dI) vwCl (xw A C nb st227 sl228 so229) _ := hP
              have hG : XG [1, 2, 3, 4, 5, 6, 7, 12, 13, 14, 15] st st227 := hG.tr hGst227 (by decide)
              have hf230 := hw
              have hsk : SKs ad st so 1 → SKs ad st227 so229 1 := fun hh => hf230 (hsk hh) (fun h9 => absurd h9 (by omega))
              refine lv_iconst (v := 1) hx hb dX7_readCond_86 (by decide) ?_
              refine lv_istore (lv' := [(5, .int 1), (6, .int (nI k134)), (4, .int (nI k136)), (0, .ref (A (20 + 4 * 1))), (1, .ref (A 1)), (2, .ref (A (36 + 20 * 0))), (3, .int 1)]) hx hb dX7_readCond_87 hl (by decide) rfl (fun ls hl => ?_)
              refine lv_aload_n hx hb dX7_readCond_89 rfl (lv_at hl 4 rfl) ?_
              refine va_callv (va_runV (As := []) (rest := []) ⟨hx, hb, hml, hown, hts⟩ (x_X8_step l dC dI ad E hEE A C nb _ hN st227 sl228 so229  hG.1 hO.1) (cwV 0 hts gX7_readCond_X8_step rfl rfl rfl (by decide +kernel) ⟨Nat.le_of_ble_eq_true rfl, Nat.le_of_ble_eq_true rfl⟩) ⟨fun a U g mk q => ⟨q.1, xPre.blind hEE q.2⟩, va_recv hK hP (ci := 9) (q0 := 1) rfl (xw_is (r := 1) (by omega) (xc_fix (r := 1) (by omega))), fun U hU hW => ⟨rfl, xPre.of hEE hP hK hE hS hU hW⟩⟩ rfl rfl hl.1 rfl (lv_room (Nat.le_of_ble_eq_true rfl)) dX7_readCond_90 ⟨Nat.le_of_ble_eq_true rfl, Nat.le_of_ble_eq_true rfl⟩) hS (fun q _ h => XA.le hS.1 q h) (XA.le hS.1) (fun x t H locs ht hvm hw hB _ _ hS => ?_)
              have hP := xB.at ht hB
              clear hB ht hvm
              obtain ⟨st232, sl233, so234⟩ := x
              obtain ⟨hGst232, hLGst232, hOst232, hw⟩ := hw
              dsimp only at hGst232 hLGst232 hOst232 hw
              have hL : LGq sl sl233 := hL.tr hLGst232
              have hO : OG ad [2, 4] so so234 := hO.tr hOst232 (by decide)
              have hP : va_P (dC, dI) vwCl (xw A C nb st232 sl233 so234) _ := hP
              have hG : XG [1, 2, 3, 4, 5, 6, 7, 12, 13, 14, 15] st st232 := hG.tr hGst232 (by decide)
              clear hw
              have hsk : SKs ad st so 1 → SKs ad st232 so234 1 := fun hh => SKs.mg (hsk hh) (by omega) hGst232 hOst232 (by decide) (by decide) (by decide)
              refine lv_aload_n hx hb dX7_readCond_93 rfl (lv_at hl 3 rfl) ?_
              refine lv_aload_n hx hb dX7_readCond_94 rfl (lv_at hl 4 rfl) ?_
              refine lv_aload_n hx hb dX7_readCond_95 rfl (lv_at hl 5 rfl) ?_
              refine lv_iload_n hx hb dX7_readCond_96 rfl (lv_at hl 6 rfl) ?_
              refine va_calli (va_runV (As := [.ref (A 1), .ref (A (36 + 20 * 0)), .int 1]) (rest := []) ⟨hx, hb, hml, hown, hts⟩ (x_readOne_1 l dC dI ad E hEE A C nb _ hN st232 sl233 so234  hG.1 hO.1) (cwV 3 hts gX7_readCond_X7_readOne rfl rfl rfl (by decide +kernel) ⟨Nat.le_of_ble_eq_true rfl, Nat.le_of_ble_eq_true rfl⟩) ⟨fun a U g mk q => ⟨q.1, xPre.blind hEE q.2⟩, va_recv hK hP (ci := 8) (q0 := (20 + 4 * 1)) rfl (xw_is (r := (20 + 4 * 1)) (by omega) (xc_sn (q := 1) (o := 0) (by omega) (by omega))), fun U hU hW => ⟨rfl, xPre.of hEE hP hK hE hS hU hW⟩⟩ rfl rfl hl.1 rfl (lv_room (Nat.le_of_ble_eq_true rfl)) dX7_readCond_97 ⟨Nat.le_of_ble_eq_true rfl, Nat.le_of_ble_eq_true rfl⟩) hS (fun q _ h => XA.le hS.1 q h) (XA.le hS.1) (fun r235 x t H locs ht hvm hw hB _ _ hS => ?_)
              have hP := xB.at ht hB
              clear hB ht hvm
              obtain ⟨st236, sl237, so238⟩ := x
              obtain ⟨hGst236, hLGst236, hOst236, hw⟩ := hw
              dsimp only at hGst236 hLGst236 hOst236 hw
              have hL : LGq sl sl237 := hL.tr hLGst236
              have hO : OG ad [2, 4] so so238 := hO.tr hOst236 (by decide)
              have hP : va_P (dC, dI) vwCl (xw A C nb st236 sl237 so238) _ := hP
              have hG : XG [1, 2, 3, 4, 5, 6, 7, 12, 13, 14, 15] st st236 := hG.tr hGst236 (by decide)
              rcases hw with ⟨rfl, hf239⟩ | ⟨rfl, hf240⟩
              · have hsk : SKs ad st so 1 → SKs ad st236 so238 1 := fun hh => hf239 (hsk hh)
                refine lv_istore (lv' := [(4, .int 1), (5, .int 1), (6, .int (nI k134)), (0, .ref (A (20 + 4 * 1))), (1, .ref (A 1)), (2, .ref (A (36 + 20 * 0))), (3, .int 1)]) hx hb dX7_readCond_100 hl (by decide) rfl (fun ls hl => ?_)
                refine lv_iinc (v := (nI (k134 + 1))) (lv' := [(6, .int (nI (k134 + 1))), (4, .int 1), (5, .int 1), (0, .ref (A (20 + 4 * 1))), (1, .ref (A 1)), (2, .ref (A (36 + 20 * 0))), (3, .int 1)]) hx hb dX7_readCond_102 hl (k := 2) rfl (nI_add k134 1) (by decide) rfl (fun ls hl => ?_)
                refine lv_goto (tgt := 15) hx hb dX7_readCond_105 (by decide) ?_
                exact ih148 (21 - (k134 + 1)) _ _ _ _ (by omega) ⟨(k134 + 1), 1, 1, st236, sl237, so238, rfl, by omega, by omega, by omega, by omega, by omega, by omega, fun _ => hsk, fun h9 => absurd h9 (by omega), hP, hG, hO, hL, hS, lv_sub hl [0, 2, 1, 3, 4, 5, 6] rfl, rfl⟩
              · refine lv_istore (lv' := [(4, .int 0), (5, .int 1), (6, .int (nI k134)), (0, .ref (A (20 + 4 * 1))), (1, .ref (A 1)), (2, .ref (A (36 + 20 * 0))), (3, .int 1)]) hx hb dX7_readCond_100 hl (by decide) rfl (fun ls hl => ?_)
                refine lv_iinc (v := (nI (k134 + 1))) (lv' := [(6, .int (nI (k134 + 1))), (4, .int 0), (5, .int 1), (0, .ref (A (20 + 4 * 1))), (1, .ref (A 1)), (2, .ref (A (36 + 20 * 0))), (3, .int 1)]) hx hb dX7_readCond_102 hl (k := 2) rfl (nI_add k134 1) (by decide) rfl (fun ls hl => ?_)
                refine lv_goto (tgt := 15) hx hb dX7_readCond_105 (by decide) ?_
                exact ih148 (21 - (k134 + 1)) _ _ _ _ (by omega) ⟨(k134 + 1), 1, 0, st236, sl237, so238, rfl, by omega, by omega, by omega, by omega, by omega, by omega, fun h9 => absurd h9 (by omega), fun _ => by show ¬ st236 1 13 = 0; exact hf240, hP, hG, hO, hL, hS, lv_sub hl [0, 2, 1, 3, 4, 5, 6] rfl, rfl⟩
        · have c58 : j193 = 14 := (EV.eqw hEv (i := j193) (j := 14) (by omega) (by omega)).mp c58
          refine lv_aload_n hx hb dX7_readCond_37 rfl (lv_at hl 4 rfl) ?_
          refine va_callv (va_runV (As := []) (rest := []) ⟨hx, hb, hml, hown, hts⟩ (x_X8_step l dC dI ad E hEE A C nb _ hN st137 sl138 so139  hG.1 hO.1) (cwV 0 hts gX7_readCond_X8_step rfl rfl rfl (by decide +kernel) ⟨Nat.le_of_ble_eq_true rfl, Nat.le_of_ble_eq_true rfl⟩) ⟨fun a U g mk q => ⟨q.1, xPre.blind hEE q.2⟩, va_recv hK hP (ci := 9) (q0 := 1) rfl (xw_is (r := 1) (by omega) (xc_fix (r := 1) (by omega))), fun U hU hW => ⟨rfl, xPre.of hEE hP hK hE hS hU hW⟩⟩ rfl rfl hl.1 rfl (lv_room (Nat.le_of_ble_eq_true rfl)) dX7_readCond_38 ⟨Nat.le_of_ble_eq_true rfl, Nat.le_of_ble_eq_true rfl⟩) hS (fun q _ h => XA.le hS.1 q h) (XA.le hS.1) (fun x t H locs ht hvm hw hB _ _ hS => ?_)
          have hP := xB.at ht hB
          clear hB ht hvm
          obtain ⟨st242, sl243, so244⟩ := x
          obtain ⟨hGst242, hLGst242, hOst242, hw⟩ := hw
          dsimp only at hGst242 hLGst242 hOst242 hw
          have hL : LGq sl sl243 := hL.tr hLGst242
          have hO : OG ad [2, 4] so so244 := hO.tr hOst242 (by decide)
          have hP : va_P (dC, dI) vwCl (xw A C nb st242 sl243 so244) _ := hP
          have hG : XG [1, 2, 3, 4, 5, 6, 7, 12, 13, 14, 15] st st242 := hG.tr hGst242 (by decide)
          clear hw
          have hsk : SKs ad st so 1 → SKs ad st242 so244 1 := fun hh => SKs.mg (hsk hh) (by omega) hGst242 hOst242 (by decide) (by decide) (by decide)
          refine lv_aload_n hx hb dX7_readCond_41 rfl (lv_at hl 3 rfl) ?_
          refine lv_aload_n hx hb dX7_readCond_42 rfl (lv_at hl 4 rfl) ?_
          refine lv_aload_n hx hb dX7_readCond_43 rfl (lv_at hl 5 rfl) ?_
          refine lv_iload_n hx hb dX7_readCond_44 rfl (lv_at hl 6 rfl) ?_
          refine va_calli (va_runV (As := [.ref (A 1), .ref (A (36 + 20 * 0)), .int 1]) (rest := []) ⟨hx, hb, hml, hown, hts⟩ (x_readOne_1 l dC dI ad E hEE A C nb _ hN st242 sl243 so244  hG.1 hO.1) (cwV 3 hts gX7_readCond_X7_readOne rfl rfl rfl (by decide +kernel) ⟨Nat.le_of_ble_eq_true rfl, Nat.le_of_ble_eq_true rfl⟩) ⟨fun a U g mk q => ⟨q.1, xPre.blind hEE q.2⟩, va_recv hK hP (ci := 8) (q0 := (20 + 4 * 1)) rfl (xw_is (r := (20 + 4 * 1)) (by omega) (xc_sn (q := 1) (o := 0) (by omega) (by omega))), fun U hU hW => ⟨rfl, xPre.of hEE hP hK hE hS hU hW⟩⟩ rfl rfl hl.1 rfl (lv_room (Nat.le_of_ble_eq_true rfl)) dX7_readCond_45 ⟨Nat.le_of_ble_eq_true rfl, Nat.le_of_ble_eq_true rfl⟩) hS (fun q _ h => XA.le hS.1 q h) (XA.le hS.1) (fun r245 x t H locs ht hvm hw hB _ _ hS => ?_)
          have hP := xB.at ht hB
          clear hB ht hvm
          obtain ⟨st246, sl247, so248⟩ := x
          obtain ⟨hGst246, hLGst246, hOst246, hw⟩ := hw
          dsimp only at hGst246 hLGst246 hOst246 hw
          have hL : LGq sl sl247 := hL.tr hLGst246
          have hO : OG ad [2, 4] so so248 := hO.tr hOst246 (by decide)
          have hP : va_P (dC, dI) vwCl (xw A C nb st246 sl247 so248) _ := hP
          have hG : XG [1, 2, 3, 4, 5, 6, 7, 12, 13, 14, 15] st st246 := hG.tr hGst246 (by decide)
          rcases hw with ⟨rfl, hf249⟩ | ⟨rfl, hf250⟩
          · have hsk : SKs ad st so 1 → SKs ad st246 so248 1 := fun hh => hf249 (hsk hh)
            refine lv_istore (lv' := [(4, .int 1), (6, .int (nI k134)), (5, .int (nI k135)), (0, .ref (A (20 + 4 * 1))), (1, .ref (A 1)), (2, .ref (A (36 + 20 * 0))), (3, .int 1)]) hx hb dX7_readCond_48 hl (by decide) rfl (fun ls hl => ?_)
            refine lv_aload_n hx hb dX7_readCond_50 rfl (lv_at hl 3 rfl) ?_
            refine va_gets (v := .ref (ad 14)) hx hb (EV.word hEv (i := 14) (by decide)) hS hown (hts _ mm_X7_readCond_1) (fun _ hh => hh) dX7_readCond_51 ?_
            refine lv_iconst (v := 0) hx hb dX7_readCond_54 (by decide) ?_
            refine lv_iconst (v := 0) hx hb dX7_readCond_55 (by decide) ?_
            refine va_callv (va_runV (As := [.ref (ad 14), .int 0, .int 0]) (rest := []) ⟨hx, hb, hml, hown, hts⟩ (x_X7_add l dC dI ad E hEE A C nb _ hN st246 sl247 so248 14 0 0 (by omega) hG.1 hO.1) (cwV 3 hts gX7_readCond_X7_add rfl rfl rfl (by decide +kernel) ⟨Nat.le_of_ble_eq_true rfl, Nat.le_of_ble_eq_true rfl⟩) ⟨fun a U g mk q => ⟨q.1, xPre.blind hEE q.2⟩, va_recv hK hP (ci := 8) (q0 := (20 + 4 * 1)) rfl (xw_is (r := (20 + 4 * 1)) (by omega) (xc_sn (q := 1) (o := 0) (by omega) (by omega))), fun U hU hW => ⟨rfl, xPre.of hEE hP hK hE hS hU hW⟩⟩ rfl rfl hl.1 rfl (lv_room (Nat.le_of_ble_eq_true rfl)) dX7_readCond_56 ⟨Nat.le_of_ble_eq_true rfl, Nat.le_of_ble_eq_true rfl⟩) hS (fun q _ h => XA.le hS.1 q h) (XA.le hS.1) (fun x t H locs ht hvm hw hB _ _ hS => ?_)
            have hP := xB.at ht hB
            clear hB ht hvm
            obtain ⟨st252, sl253, so254⟩ := x
            obtain ⟨hGst252, hLGst252, hOst252, hw⟩ := hw
            dsimp only at hGst252 hLGst252 hOst252 hw
            have hL : LGq sl sl253 := hL.tr hLGst252
            have hO : OG ad [2, 4] so so254 := hO.tr hOst252 (by decide)
            have hP : va_P (dC, dI) vwCl (xw A C nb st252 sl253 so254) _ := hP
            have hG : XG [1, 2, 3, 4, 5, 6, 7, 12, 13, 14, 15] st st252 := hG.tr hGst252 (by decide)
            have hf255 := hw
            have hsk : SKs ad st so 1 → SKs ad st252 so254 1 := fun hh => hf255 (hsk hh) (fun h9 => absurd h9 (by omega))
            refine lv_goto (tgt := 102) hx hb dX7_readCond_59 (by decide) ?_
            refine lv_iinc (v := (nI (k134 + 1))) (lv' := [(6, .int (nI (k134 + 1))), (4, .int 1), (5, .int (nI k135)), (0, .ref (A (20 + 4 * 1))), (1, .ref (A 1)), (2, .ref (A (36 + 20 * 0))), (3, .int 1)]) hx hb dX7_readCond_102 hl (k := 1) rfl (nI_add k134 1) (by decide) rfl (fun ls hl => ?_)
            refine lv_goto (tgt := 15) hx hb dX7_readCond_105 (by decide) ?_
            exact ih148 (21 - (k134 + 1)) _ _ _ _ (by omega) ⟨(k134 + 1), k135, 1, st252, sl253, so254, rfl, by omega, by omega, by omega, by omega, by omega, by omega, fun _ => hsk, fun h9 => absurd h9 (by omega), hP, hG, hO, hL, hS, lv_sub hl [0, 2, 1, 3, 4, 5, 6] rfl, rfl⟩
          · refine lv_istore (lv' := [(4, .int 0), (6, .int (nI k134)), (5, .int (nI k135)), (0, .ref (A (20 + 4 * 1))), (1, .ref (A 1)), (2, .ref (A (36 + 20 * 0))), (3, .int 1)]) hx hb dX7_readCond_48 hl (by decide) rfl (fun ls hl => ?_)
            refine lv_aload_n hx hb dX7_readCond_50 rfl (lv_at hl 3 rfl) ?_
            refine va_gets (v := .ref (ad 14)) hx hb (EV.word hEv (i := 14) (by decide)) hS hown (hts _ mm_X7_readCond_1) (fun _ hh => hh) dX7_readCond_51 ?_
            refine lv_iconst (v := 0) hx hb dX7_readCond_54 (by decide) ?_
            refine lv_iconst (v := 0) hx hb dX7_readCond_55 (by decide) ?_
            refine va_callv (va_runV (As := [.ref (ad 14), .int 0, .int 0]) (rest := []) ⟨hx, hb, hml, hown, hts⟩ (x_X7_add l dC dI ad E hEE A C nb _ hN st246 sl247 so248 14 0 0 (by omega) hG.1 hO.1) (cwV 3 hts gX7_readCond_X7_add rfl rfl rfl (by decide +kernel) ⟨Nat.le_of_ble_eq_true rfl, Nat.le_of_ble_eq_true rfl⟩) ⟨fun a U g mk q => ⟨q.1, xPre.blind hEE q.2⟩, va_recv hK hP (ci := 8) (q0 := (20 + 4 * 1)) rfl (xw_is (r := (20 + 4 * 1)) (by omega) (xc_sn (q := 1) (o := 0) (by omega) (by omega))), fun U hU hW => ⟨rfl, xPre.of hEE hP hK hE hS hU hW⟩⟩ rfl rfl hl.1 rfl (lv_room (Nat.le_of_ble_eq_true rfl)) dX7_readCond_56 ⟨Nat.le_of_ble_eq_true rfl, Nat.le_of_ble_eq_true rfl⟩) hS (fun q _ h => XA.le hS.1 q h) (XA.le hS.1) (fun x t H locs ht hvm hw hB _ _ hS => ?_)
            have hP := xB.at ht hB
            clear hB ht hvm
            obtain ⟨st257, sl258, so259⟩ := x
            obtain ⟨hGst257, hLGst257, hOst257, hw⟩ := hw
            dsimp only at hGst257 hLGst257 hOst257 hw
            have hL : LGq sl sl258 := hL.tr hLGst257
            have hO : OG ad [2, 4] so so259 := hO.tr hOst257 (by decide)
            have hP : va_P (dC, dI) vwCl (xw A C nb st257 sl258 so259) _ := hP
            have hG : XG [1, 2, 3, 4, 5, 6, 7, 12, 13, 14, 15] st st257 := hG.tr hGst257 (by decide)
            have hf260 := hw
            refine lv_goto (tgt := 102) hx hb dX7_readCond_59 (by decide) ?_
            refine lv_iinc (v := (nI (k134 + 1))) (lv' := [(6, .int (nI (k134 + 1))), (4, .int 0), (5, .int (nI k135)), (0, .ref (A (20 + 4 * 1))), (1, .ref (A 1)), (2, .ref (A (36 + 20 * 0))), (3, .int 1)]) hx hb dX7_readCond_102 hl (k := 1) rfl (nI_add k134 1) (by decide) rfl (fun ls hl => ?_)
            refine lv_goto (tgt := 15) hx hb dX7_readCond_105 (by decide) ?_
            exact ih148 (21 - (k134 + 1)) _ _ _ _ (by omega) ⟨(k134 + 1), k135, 0, st257, sl258, so259, rfl, by omega, by omega, by omega, by omega, by omega, by omega, fun h9 => absurd h9 (by omega), fun _ => by show ¬ st257 1 13 = 0; rw [hGst257.2 1 13 (by rw [(by decide : xcl 1 13 = 10)]; decide)]; exact hf250, hP, hG, hO, hL, hS, lv_sub hl [0, 2, 1, 3, 4, 5, 6] rfl, rfl⟩
