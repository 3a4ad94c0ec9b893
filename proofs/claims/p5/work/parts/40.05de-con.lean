set_option maxHeartbeats 4000000 in
set_option maxRecDepth 100000 in
theorem m_risk (l : Launch) (dC : Nat → ClassId) (dI : Nat → Nat → Nat) (ar : Nat → Nat) (cy : Nat → ClassId) (sz : Nat) (hN : MN ar) (st : Nat → Nat → Int32) (sl : Nat → Nat → Int64) (va : Int32) (vb : Int32) (hI : MI st) : Met l yX12_risk wsX12_risk ({ frames := 5, cells := 0, slots := 0, locals := 119 }) (va_Pc [.ref (ar 0), .int va, .int vb] (mPre dC dI ar cy sz st sl)) (va_Ql (fun (r : Int64) (x : MT) => MG [1, 2, 3, 4, 5, 6, 7, 8, 9, 10, 11, 12, 13, 14, 15, 16, 17, 19, 20, 21, 22, 23] st x.1 ∧ LQ [7, 9] sl x.2 ∧ (True)) (mB dC dI ar cy) (MA ar sz)) 0 0 (MA ar sz) := by
  refine Met.ofW (cc := cX12_risk) (maxL := 5) (ret := (some .long)) (by decide) rfl ?_
  intro p e s m args below meth c s₁ B hml hv
  obtain ⟨rfl, hsz, hP, hK⟩ := hv
  have hx := B.exec
  have hb := B.bytes
  have hr := B.returns
  have hts := atoms_spec (ws := wsX12_risk) B.pre
  have hown : s.vm.findClass RX12 = some m.cls := findClass_of_methodNamed B.named
  subst hsz
  have hS : va_S (MA ar s.heap.size) s.heap s.heap [] := va_S.rf
  have hG : MG [1, 2, 3, 4, 5, 6, 7, 8, 9, 10, 11, 12, 13, 14, 15, 16, 17, 19, 20, 21, 22, 23] st st := MG.rf hI
  have hl := lv_entry ([.ref (ar 0), .int va, .int vb]) (n := 5) (Nat.le_of_ble_eq_true rfl)
  rw [lg_entry_eq]
  generalize (lg_sl ([.ref (ar 0), .int va, .int vb]) ++ List.replicate (5 - (lg_sl ([.ref (ar 0), .int va, .int vb])).length) Slot.unset).toArray = ls at hl ⊢
  have hl : lv_has ls 5 [(0, .ref (ar 0)), (1, .int va), (2, .int vb)] := hl
  clear hI
  have hL : LQ [7, 9] sl sl := LQ.rf
  refine lv_aload_n hx hb dX12_risk_0 rfl (lv_at hl 0 rfl) ?_
  refine lv_iconst (v := 0) hx hb dX12_risk_1 (by decide) ?_
  refine va_put (D := (dC, dI)) (ci := 11) (v := .int 0) (ty := .int) (C := RX12) (T := TX12) (N := 47) hx hb hts ii_X12_risk tyX12 tyX12_ok nmX12 hown hK hP (mD hN _ _ _ _) hS 0 rfl rfl 0 (by decide) (hts _ mm_X12_risk_1) (fun _ hh => hh) rfl (by decide +kernel) rfl rfl (Nat.le_of_ble_eq_true rfl) dX12_risk_2 (fun H locs hP _ hS => ?_)
  have hP : va_P (dC, dI) vwCl (mw ar cy (up2 st 0 0 0) sl) H := hP
  obtain ⟨st1, hP, hG⟩ : ∃ y, va_P (dC, dI) vwCl (mw ar cy y sl) H ∧ MG [1, 2, 3, 4, 5, 6, 7, 8, 9, 10, 11, 12, 13, 14, 15, 16, 17, 19, 20, 21, 22, 23] st y := ⟨up2 st 0 0 0, hP, hG.up (rz (by decide : mr 0 0 = 0)) (pn (by decide : pcl 0 0 = 0) (by decide))⟩
  refine lv_aload_n hx hb dX12_risk_5 rfl (lv_at hl 0 rfl) ?_
  refine lv_iload_n hx hb dX12_risk_6 rfl (lv_at hl 1 rfl) ?_
  refine va_calli (va_runV (As := [.int va]) (rest := []) ⟨hx, hb, hml, hown, hts⟩ (m_isPerson l dC dI ar cy _ hN st1 sl va  hG.1) (cwV 1 hts gX12_risk_X12_isPerson rfl rfl rfl (by decide +kernel) ⟨Nat.le_of_ble_eq_true rfl, Nat.le_of_ble_eq_true rfl⟩) ⟨fun a U g mk q => ⟨q.1, mPre.blind q.2⟩, va_recv hK hP (ci := 11) (q0 := 0) rfl rfl, fun U hU hW => ⟨rfl, mPre.of hP hK hU hW⟩⟩ rfl rfl hl.1 rfl (lv_room (Nat.le_of_ble_eq_true rfl)) dX12_risk_7 ⟨Nat.le_of_ble_eq_true rfl, Nat.le_of_ble_eq_true rfl⟩) hS (fun q _ h => MA.le hS.1 q h) (MA.le hS.1) (fun r2 x t H locs ht hvm hw hB _ _ hS => ?_)
  have hP := mB.at ht hB
  clear hB ht hvm
  obtain ⟨rfl, hw⟩ := hw
  have hP : va_P (dC, dI) vwCl (mw ar cy st1 sl) _ := hP
  rcases hw with ⟨n3, rfl, hf4, rfl⟩ | rfl
  · refine lv_if_eq (tgt := 40) hx hb dX12_risk_10 (by decide) (fun cc => absurd cc (by decide)) (fun _ => ?_)
    refine lv_iload_n hx hb dX12_risk_13 rfl (lv_at hl 2 rfl) ?_
    refine lv_iconst (v := 0) hx hb dX12_risk_14 (by decide) ?_
    refine lv_iconst (v := 1) hx hb dX12_risk_15 (by decide) ?_
    refine va_calli (va_runS (As := [.int vb, .int 0, .int 1]) (rest := []) ⟨hx, hb, hml, hown, hts⟩ (m_isIn l dC dI ar cy _ hN st1 sl vb 0 1  hG.1) (va_cwS 3 hts gX12_risk_X12_isIn rfl rfl rfl (by decide +kernel) ⟨Nat.le_of_ble_eq_true rfl, Nat.le_of_ble_eq_true rfl⟩) ⟨fun a U g mk q => ⟨q.1, mPre.blind q.2⟩, fun U hU hW => ⟨rfl, mPre.of hP hK hU hW⟩⟩ rfl rfl hl.1 rfl (lv_room (Nat.le_of_ble_eq_true rfl)) dX12_risk_16 ⟨Nat.le_of_ble_eq_true rfl, Nat.le_of_ble_eq_true rfl⟩) hS (fun q _ h => MA.le hS.1 q h) (MA.le hS.1) (fun r5 x t H locs ht hvm hw hB _ _ hS => ?_)
    have hP := mB.at ht hB
    clear hB ht hvm
    obtain ⟨rfl, hw⟩ := hw
    have hP : va_P (dC, dI) vwCl (mw ar cy st1 sl) _ := hP
    rcases hw with ⟨rfl, hf6, hf7⟩ | rfl
    · obtain ⟨n8, hn8a, hn8b, rfl⟩ := zz_rng (a := 0) (b := 1) (by omega) hf6 (by omega) hf7
      refine lv_if_eq (tgt := 40) hx hb dX12_risk_19 (by decide) (fun cc => absurd cc (by decide)) (fun _ => ?_)
      refine lv_aload_n hx hb dX12_risk_22 rfl (lv_at hl 0 rfl) ?_
      refine lv_iload_n hx hb dX12_risk_23 rfl (lv_at hl 1 rfl) ?_
      refine va_calli (va_runV (As := [.int (nI n3)]) (rest := []) ⟨hx, hb, hml, hown, hts⟩ (m_dogsOf l dC dI ar cy _ hN st1 sl (nI n3)  hG.1) (cwV 1 hts gX12_risk_X12_dogsOf rfl rfl rfl (by decide +kernel) ⟨Nat.le_of_ble_eq_true rfl, Nat.le_of_ble_eq_true rfl⟩) ⟨fun a U g mk q => ⟨q.1, mPre.blind q.2⟩, va_recv hK hP (ci := 11) (q0 := 0) rfl rfl, fun U hU hW => ⟨rfl, mPre.of hP hK hU hW⟩⟩ rfl rfl hl.1 rfl (lv_room (Nat.le_of_ble_eq_true rfl)) dX12_risk_24 ⟨Nat.le_of_ble_eq_true rfl, Nat.le_of_ble_eq_true rfl⟩) hS (fun q _ h => MA.le hS.1 q h) (MA.le hS.1) (fun r9 x t H locs ht hvm hw hB _ _ hS => ?_)
      have hP := mB.at ht hB
      clear hB ht hvm
      obtain ⟨rfl, hw⟩ := hw
      have hP : va_P (dC, dI) vwCl (mw ar cy st1 sl) _ := hP
      clear hw
      refine lv_if_ne (tgt := 40) hx hb dX12_risk_27 (by decide) (fun c3 => ?_) (fun c3 => ?_)
      · refine lv_aload_n hx hb dX12_risk_40 rfl (lv_at hl 0 rfl) ?_
        refine va_calli (va_runV (As := []) (rest := []) ⟨hx, hb, hml, hown, hts⟩ (m_refuse l dC dI ar cy _ hN st1 sl  hG.1) (cwV 0 hts gX12_risk_X12_refuse rfl rfl rfl (by decide +kernel) ⟨Nat.le_of_ble_eq_true rfl, Nat.le_of_ble_eq_true rfl⟩) ⟨fun a U g mk q => ⟨q.1, mPre.blind q.2⟩, va_recv hK hP (ci := 11) (q0 := 0) rfl rfl, fun U hU hW => ⟨rfl, mPre.of hP hK hU hW⟩⟩ rfl rfl hl.1 rfl (lv_room (Nat.le_of_ble_eq_true rfl)) dX12_risk_41 ⟨Nat.le_of_ble_eq_true rfl, Nat.le_of_ble_eq_true rfl⟩) hS (fun q _ h => MA.le hS.1 q h) (MA.le hS.1) (fun r10 x t H locs ht hvm hw hB _ _ hS => ?_)
        have hP := mB.at ht hB
        clear hB ht hvm
        obtain ⟨st11, sl12⟩ := x
        obtain ⟨hG2, hL2, hw⟩ := hw
        have hL : LQ [7, 9] sl sl12 := hL.tr hL2 (by decide)
        clear hL2
        have hP : va_P (dC, dI) vwCl (mw ar cy st11 sl12) _ := hP
        have hG : MG [1, 2, 3, 4, 5, 6, 7, 8, 9, 10, 11, 12, 13, 14, 15, 16, 17, 19, 20, 21, 22, 23] st st11 := hG.tr hG2 (by decide)
        clear hG2
        obtain rfl := hw
        refine lv_i2l (v := 0) hx hb dX12_risk_44 (by decide) ?_
        exact W.lret (v := 0) hx hb hr (fun t ht hW => ⟨⟨0, (st11, sl12), rfl, ⟨hG, hL, trivial⟩, mB.of ht hP⟩, hS.F ht⟩) hS.2.2 dX12_risk_45
      · refine lv_aload_n hx hb dX12_risk_30 rfl (lv_at hl 0 rfl) ?_
        refine lv_iload_n hx hb dX12_risk_31 rfl (lv_at hl 1 rfl) ?_
        refine va_calli (va_runV (As := [.int (nI n3)]) (rest := []) ⟨hx, hb, hml, hown, hts⟩ (m_layPerils l dC dI ar cy _ hN st1 sl n3 (by omega) hG.1) (cwV 1 hts gX12_risk_X12_layPerils rfl rfl rfl (by decide +kernel) ⟨Nat.le_of_ble_eq_true rfl, Nat.le_of_ble_eq_true rfl⟩) ⟨fun a U g mk q => ⟨q.1, mPre.blind q.2⟩, va_recv hK hP (ci := 11) (q0 := 0) rfl rfl, fun U hU hW => ⟨rfl, mPre.of hP hK hU hW⟩⟩ rfl rfl hl.1 rfl (lv_room (Nat.le_of_ble_eq_true rfl)) dX12_risk_32 ⟨Nat.le_of_ble_eq_true rfl, Nat.le_of_ble_eq_true rfl⟩) hS (fun q _ h => MA.le hS.1 q h) (MA.le hS.1) (fun r13 x t H locs ht hvm hw hB _ _ hS => ?_)
        have hP := mB.at ht hB
        clear hB ht hvm
        obtain ⟨st14, sl15⟩ := x
        obtain ⟨hG2, hL2, hw⟩ := hw
        have hL : LQ [7, 9] sl sl15 := hL.tr hL2 (by decide)
        clear hL2
        dsimp only at hw
        have hP : va_P (dC, dI) vwCl (mw ar cy st14 sl15) _ := hP
        have hG : MG [1, 2, 3, 4, 5, 6, 7, 8, 9, 10, 11, 12, 13, 14, 15, 16, 17, 19, 20, 21, 22, 23] st st14 := hG.tr hG2 (by decide)
        clear hG2
        have hf16 := hw
        refine lv_bipush (v := 8) hx hb dX12_risk_35 (by decide) ?_
        refine lv_icmp_le (tgt := 46) hx hb dX12_risk_37 (by decide) (fun c4 => ?_) (fun c4 => ?_)
        · refine lv_aload_n hx hb dX12_risk_46 rfl (lv_at hl 0 rfl) ?_
          refine va_get (D := (dC, dI)) (ci := 11) (v := .long (sl15 0 30)) (C := RX12) (T := TX12) (N := 47) hx hb hts ii_X12_risk hown hK hP 0 rfl rfl 30 (by decide) (hts _ mm_X12_risk_2) (fun _ hh => hh) rfl dX12_risk_47 ?_
          refine lv_aload_n hx hb dX12_risk_50 rfl (lv_at hl 0 rfl) ?_
          refine va_get (D := (dC, dI)) (ci := 11) (v := .long (sl15 0 29)) (C := RX12) (T := TX12) (N := 47) hx hb hts ii_X12_risk hown hK hP 0 rfl rfl 29 (by decide) (hts _ mm_X12_risk_3) (fun _ hh => hh) rfl dX12_risk_51 ?_
          refine lv_lsub hx hb dX12_risk_54 ?_
          refine lv_topl (fun z17 ez17 => ?_)
          clear ez17
          refine lv_lstore_n (lv' := [(3, .long z17), (0, .ref (ar 0)), (1, .int (nI n3)), (2, .int (nI n8))]) hx hb dX12_risk_55 rfl hl (by decide) rfl (fun ls hl => ?_)
          refine lv_iload_n hx hb dX12_risk_56 rfl (lv_at hl 3 rfl) ?_
          refine lv_if_ne (tgt := 64) hx hb dX12_risk_57 (by decide) (fun c5 => ?_) (fun c5 => ?_)
          · have c5 : ¬ n8 = 0 := fun hh => c5 ((nI_eq (a := n8) (b := 0) (by omega) (by omega)).mpr hh)
            refine lv_aload_n hx hb dX12_risk_64 rfl (lv_at hl 1 rfl) ?_
            refine va_get (D := (dC, dI)) (ci := 11) (v := .long (sl15 0 30)) (C := RX12) (T := TX12) (N := 47) hx hb hts ii_X12_risk hown hK hP 0 rfl rfl 30 (by decide) (hts _ mm_X12_risk_2) (fun _ hh => hh) rfl dX12_risk_65 ?_
            refine lv_aload_n hx hb dX12_risk_68 rfl (lv_at hl 1 rfl) ?_
            refine va_get (D := (dC, dI)) (ci := 11) (v := .long (sl15 0 30)) (C := RX12) (T := TX12) (N := 47) hx hb hts ii_X12_risk hown hK hP 0 rfl rfl 30 (by decide) (hts _ mm_X12_risk_2) (fun _ hh => hh) rfl dX12_risk_69 ?_
            refine lv_lload_n hx hb dX12_risk_72 rfl (lv_at hl 0 rfl) ?_
            refine va_calll (va_runS (As := [.long (sl15 0 30), .long z17]) (rest := [.long (sl15 0 30)]) ⟨hx, hb, hml, hown, hts⟩ (m_commonLong l dC dI ar cy _ hN st14 sl15 (sl15 0 30) z17  hG.1) (va_cwS 2 hts gX12_risk_X12_commonLong rfl rfl rfl (by decide +kernel) ⟨Nat.le_of_ble_eq_true rfl, Nat.le_of_ble_eq_true rfl⟩) ⟨fun a U g mk q => ⟨q.1, mPre.blind q.2⟩, fun U hU hW => ⟨rfl, mPre.of hP hK hU hW⟩⟩ rfl rfl hl.1 rfl (lv_room (Nat.le_of_ble_eq_true rfl)) dX12_risk_73 ⟨Nat.le_of_ble_eq_true rfl, Nat.le_of_ble_eq_true rfl⟩) hS (fun q _ h => MA.le hS.1 q h) (MA.le hS.1) (fun r18 x t H locs ht hvm hw hB _ _ hS => ?_)
            have hP := mB.at ht hB
            clear hB ht hvm
            obtain ⟨rfl, hw⟩ := hw
            have hP : va_P (dC, dI) vwCl (mw ar cy st14 sl15) _ := hP
            have hf19 := hw
            have hnz := hf19.1 hf16
            refine lv_ldiv hx hb dX12_risk_76 (hnz) ?_
            refine lv_topl (fun z20 ez20 => ?_)
            clear ez20
            exact W.lret (v := z20) hx hb hr (fun t ht hW => ⟨⟨z20, (st14, sl15), rfl, ⟨hG, hL, trivial⟩, mB.of ht hP⟩, hS.F ht⟩) hS.2.2 dX12_risk_77
          · have c5 : n8 = 0 := (nI_eq (a := n8) (b := 0) (by omega) (by omega)).mp c5
            refine lv_lload_n hx hb dX12_risk_60 rfl (lv_at hl 0 rfl) ?_
            refine lv_goto (tgt := 68) hx hb dX12_risk_61 (by decide) ?_
            refine lv_aload_n hx hb dX12_risk_68 rfl (lv_at hl 1 rfl) ?_
            refine va_get (D := (dC, dI)) (ci := 11) (v := .long (sl15 0 30)) (C := RX12) (T := TX12) (N := 47) hx hb hts ii_X12_risk hown hK hP 0 rfl rfl 30 (by decide) (hts _ mm_X12_risk_2) (fun _ hh => hh) rfl dX12_risk_69 ?_
            refine lv_lload_n hx hb dX12_risk_72 rfl (lv_at hl 0 rfl) ?_
            refine va_calll (va_runS (As := [.long (sl15 0 30), .long z17]) (rest := [.long z17]) ⟨hx, hb, hml, hown, hts⟩ (m_commonLong l dC dI ar cy _ hN st14 sl15 (sl15 0 30) z17  hG.1) (va_cwS 2 hts gX12_risk_X12_commonLong rfl rfl rfl (by decide +kernel) ⟨Nat.le_of_ble_eq_true rfl, Nat.le_of_ble_eq_true rfl⟩) ⟨fun a U g mk q => ⟨q.1, mPre.blind q.2⟩, fun U hU hW => ⟨rfl, mPre.of hP hK hU hW⟩⟩ rfl rfl hl.1 rfl (lv_room (Nat.le_of_ble_eq_true rfl)) dX12_risk_73 ⟨Nat.le_of_ble_eq_true rfl, Nat.le_of_ble_eq_true rfl⟩) hS (fun q _ h => MA.le hS.1 q h) (MA.le hS.1) (fun r21 x t H locs ht hvm hw hB _ _ hS => ?_)
            have hP := mB.at ht hB
            clear hB ht hvm
            obtain ⟨rfl, hw⟩ := hw
            have hP : va_P (dC, dI) vwCl (mw ar cy st14 sl15) _ := hP
            have hf22 := hw
            have hnz := hf22.1 hf16
            refine lv_ldiv hx hb dX12_risk_76 (hnz) ?_
            refine lv_topl (fun z23 ez23 => ?_)
            clear ez23
            exact W.lret (v := z23) hx hb hr (fun t ht hW => ⟨⟨z23, (st14, sl15), rfl, ⟨hG, hL, trivial⟩, mB.of ht hP⟩, hS.F ht⟩) hS.2.2 dX12_risk_77
        · refine lv_aload_n hx hb dX12_risk_40 rfl (lv_at hl 0 rfl) ?_
          refine va_calli (va_runV (As := []) (rest := []) ⟨hx, hb, hml, hown, hts⟩ (m_refuse l dC dI ar cy _ hN st14 sl15  hG.1) (cwV 0 hts gX12_risk_X12_refuse rfl rfl rfl (by decide +kernel) ⟨Nat.le_of_ble_eq_true rfl, Nat.le_of_ble_eq_true rfl⟩) ⟨fun a U g mk q => ⟨q.1, mPre.blind q.2⟩, va_recv hK hP (ci := 11) (q0 := 0) rfl rfl, fun U hU hW => ⟨rfl, mPre.of hP hK hU hW⟩⟩ rfl rfl hl.1 rfl (lv_room (Nat.le_of_ble_eq_true rfl)) dX12_risk_41 ⟨Nat.le_of_ble_eq_true rfl, Nat.le_of_ble_eq_true rfl⟩) hS (fun q _ h => MA.le hS.1 q h) (MA.le hS.1) (fun r24 x t H locs ht hvm hw hB _ _ hS => ?_)
          have hP := mB.at ht hB
          clear hB ht hvm
          obtain ⟨st25, sl26⟩ := x
          obtain ⟨hG2, hL2, hw⟩ := hw
          have hL : LQ [7, 9] sl sl26 := hL.tr hL2 (by decide)
          clear hL2
          have hP : va_P (dC, dI) vwCl (mw ar cy st25 sl26) _ := hP
          have hG : MG [1, 2, 3, 4, 5, 6, 7, 8, 9, 10, 11, 12, 13, 14, 15, 16, 17, 19, 20, 21, 22, 23] st st25 := hG.tr hG2 (by decide)
          clear hG2
          obtain rfl := hw
          refine lv_i2l (v := 0) hx hb dX12_risk_44 (by decide) ?_
          exact W.lret (v := 0) hx hb hr (fun t ht hW => ⟨⟨0, (st25, sl26), rfl, ⟨hG, hL, trivial⟩, mB.of ht hP⟩, hS.F ht⟩) hS.2.2 dX12_risk_45
    · refine lv_if_eq (tgt := 40) hx hb dX12_risk_19 (by decide) (fun _ => ?_) (fun cc => absurd (by decide) cc)
      refine lv_aload_n hx hb dX12_risk_40 rfl (lv_at hl 0 rfl) ?_
      refine va_calli (va_runV (As := []) (rest := []) ⟨hx, hb, hml, hown, hts⟩ (m_refuse l dC dI ar cy _ hN st1 sl  hG.1) (cwV 0 hts gX12_risk_X12_refuse rfl rfl rfl (by decide +kernel) ⟨Nat.le_of_ble_eq_true rfl, Nat.le_of_ble_eq_true rfl⟩) ⟨fun a U g mk q => ⟨q.1, mPre.blind q.2⟩, va_recv hK hP (ci := 11) (q0 := 0) rfl rfl, fun U hU hW => ⟨rfl, mPre.of hP hK hU hW⟩⟩ rfl rfl hl.1 rfl (lv_room (Nat.le_of_ble_eq_true rfl)) dX12_risk_41 ⟨Nat.le_of_ble_eq_true rfl, Nat.le_of_ble_eq_true rfl⟩) hS (fun q _ h => MA.le hS.1 q h) (MA.le hS.1) (fun r27 x t H locs ht hvm hw hB _ _ hS => ?_)
      have hP := mB.at ht hB
      clear hB ht hvm
      obtain ⟨st28, sl29⟩ := x
      obtain ⟨hG2, hL2, hw⟩ := hw
      have hL : LQ [7, 9] sl sl29 := hL.tr hL2 (by decide)
      clear hL2
      have hP : va_P (dC, dI) vwCl (mw ar cy st28 sl29) _ := hP
      have hG : MG [1, 2, 3, 4, 5, 6, 7, 8, 9, 10, 11, 12, 13, 14, 15, 16, 17, 19, 20, 21, 22, 23] st st28 := hG.tr hG2 (by decide)
      clear hG2
      obtain rfl := hw
      refine lv_i2l (v := 0) hx hb dX12_risk_44 (by decide) ?_
      exact W.lret (v := 0) hx hb hr (fun t ht hW => ⟨⟨0, (st28, sl29), rfl, ⟨hG, hL, trivial⟩, mB.of ht hP⟩, hS.F ht⟩) hS.2.2 dX12_risk_45
  · refine lv_if_eq (tgt := 40) hx hb dX12_risk_10 (by decide) (fun _ => ?_) (fun cc => absurd (by decide) cc)
    refine lv_aload_n hx hb dX12_risk_40 rfl (lv_at hl 0 rfl) ?_
    refine va_calli (va_runV (As := []) (rest := []) ⟨hx, hb, hml, hown, hts⟩ (m_refuse l dC dI ar cy _ hN st1 sl  hG.1) (cwV 0 hts gX12_risk_X12_refuse rfl rfl rfl (by decide +kernel) ⟨Nat.le_of_ble_eq_true rfl, Nat.le_of_ble_eq_true rfl⟩) ⟨fun a U g mk q => ⟨q.1, mPre.blind q.2⟩, va_recv hK hP (ci := 11) (q0 := 0) rfl rfl, fun U hU hW => ⟨rfl, mPre.of hP hK hU hW⟩⟩ rfl rfl hl.1 rfl (lv_room (Nat.le_of_ble_eq_true rfl)) dX12_risk_41 ⟨Nat.le_of_ble_eq_true rfl, Nat.le_of_ble_eq_true rfl⟩) hS (fun q _ h => MA.le hS.1 q h) (MA.le hS.1) (fun r30 x t H locs ht hvm hw hB _ _ hS => ?_)
    have hP := mB.at ht hB
    clear hB ht hvm
    obtain ⟨st31, sl32⟩ := x
    obtain ⟨hG2, hL2, hw⟩ := hw
    have hL : LQ [7, 9] sl sl32 := hL.tr hL2 (by decide)
    clear hL2
    have hP : va_P (dC, dI) vwCl (mw ar cy st31 sl32) _ := hP
    have hG : MG [1, 2, 3, 4, 5, 6, 7, 8, 9, 10, 11, 12, 13, 14, 15, 16, 17, 19, 20, 21, 22, 23] st st31 := hG.tr hG2 (by decide)
    clear hG2
    obtain rfl := hw
    refine lv_i2l (v := 0) hx hb dX12_risk_44 (by decide) ?_
    exact W.lret (v := 0) hx hb hr (fun t ht hW => ⟨⟨0, (st31, sl32), rfl, ⟨hG, hL, trivial⟩, mB.of ht hP⟩, hS.F ht⟩) hS.2.2 dX12_risk_45
set_option maxHeartbeats 4000000 in
set_option maxRecDepth 100000 in
theorem m_perils (l : Launch) (dC : Nat → ClassId) (dI : Nat → Nat → Nat) (ar : Nat → Nat) (cy : Nat → ClassId) (sz : Nat) (hN : MN ar) (st : Nat → Nat → Int32) (sl : Nat → Nat → Int64) (va : Int32) (hI : MI st) : Met l yX12_perils wsX12_perils ({ frames := 5, cells := 0, slots := 0, locals := 119 }) (va_Pc [.ref (ar 0), .int va] (mPre dC dI ar cy sz st sl)) (va_Qi (fun (r : Int32) (x : MT) => MG [1, 2, 3, 4, 5, 6, 7, 8, 9, 10, 11, 12, 13, 14, 15, 16, 17, 19, 20, 21, 22, 23] st x.1 ∧ LQ [7, 9] sl x.2 ∧ (True)) (mB dC dI ar cy) (MA ar sz)) 0 0 (MA ar sz) := by
  refine Met.ofW (cc := cX12_perils) (maxL := 2) (ret := (some .int)) (by decide) rfl ?_
  intro p e s m args below meth c s₁ B hml hv
  obtain ⟨rfl, hsz, hP, hK⟩ := hv
  have hx := B.exec
  have hb := B.bytes
  have hr := B.returns
  have hts := atoms_spec (ws := wsX12_perils) B.pre
  have hown : s.vm.findClass RX12 = some m.cls := findClass_of_methodNamed B.named
  subst hsz
  have hS : va_S (MA ar s.heap.size) s.heap s.heap [] := va_S.rf
  have hG : MG [1, 2, 3, 4, 5, 6, 7, 8, 9, 10, 11, 12, 13, 14, 15, 16, 17, 19, 20, 21, 22, 23] st st := MG.rf hI
  have hl := lv_entry ([.ref (ar 0), .int va]) (n := 2) (Nat.le_of_ble_eq_true rfl)
  rw [lg_entry_eq]
  generalize (lg_sl ([.ref (ar 0), .int va]) ++ List.replicate (2 - (lg_sl ([.ref (ar 0), .int va])).length) Slot.unset).toArray = ls at hl ⊢
  have hl : lv_has ls 2 [(0, .ref (ar 0)), (1, .int va)] := hl
  clear hI
  have hL : LQ [7, 9] sl sl := LQ.rf
  refine lv_aload_n hx hb dX12_perils_0 rfl (lv_at hl 0 rfl) ?_
  refine lv_iconst (v := 0) hx hb dX12_perils_1 (by decide) ?_
  refine va_put (D := (dC, dI)) (ci := 11) (v := .int 0) (ty := .int) (C := RX12) (T := TX12) (N := 47) hx hb hts ii_X12_perils tyX12 tyX12_ok nmX12 hown hK hP (mD hN _ _ _ _) hS 0 rfl rfl 0 (by decide) (hts _ mm_X12_perils_1) (fun _ hh => hh) rfl (by decide +kernel) rfl rfl (Nat.le_of_ble_eq_true rfl) dX12_perils_2 (fun H locs hP _ hS => ?_)
  have hP : va_P (dC, dI) vwCl (mw ar cy (up2 st 0 0 0) sl) H := hP
  obtain ⟨st1, hP, hG⟩ : ∃ y, va_P (dC, dI) vwCl (mw ar cy y sl) H ∧ MG [1, 2, 3, 4, 5, 6, 7, 8, 9, 10, 11, 12, 13, 14, 15, 16, 17, 19, 20, 21, 22, 23] st y := ⟨up2 st 0 0 0, hP, hG.up (rz (by decide : mr 0 0 = 0)) (pn (by decide : pcl 0 0 = 0) (by decide))⟩
  refine lv_aload_n hx hb dX12_perils_5 rfl (lv_at hl 0 rfl) ?_
  refine lv_iload_n hx hb dX12_perils_6 rfl (lv_at hl 1 rfl) ?_
  refine va_calli (va_runV (As := [.int va]) (rest := []) ⟨hx, hb, hml, hown, hts⟩ (m_isPerson l dC dI ar cy _ hN st1 sl va  hG.1) (cwV 1 hts gX12_perils_X12_isPerson rfl rfl rfl (by decide +kernel) ⟨Nat.le_of_ble_eq_true rfl, Nat.le_of_ble_eq_true rfl⟩) ⟨fun a U g mk q => ⟨q.1, mPre.blind q.2⟩, va_recv hK hP (ci := 11) (q0 := 0) rfl rfl, fun U hU hW => ⟨rfl, mPre.of hP hK hU hW⟩⟩ rfl rfl hl.1 rfl (lv_room (Nat.le_of_ble_eq_true rfl)) dX12_perils_7 ⟨Nat.le_of_ble_eq_true rfl, Nat.le_of_ble_eq_true rfl⟩) hS (fun q _ h => MA.le hS.1 q h) (MA.le hS.1) (fun r2 x t H locs ht hvm hw hB _ _ hS => ?_)
  have hP := mB.at ht hB
  clear hB ht hvm
  obtain ⟨rfl, hw⟩ := hw
  have hP : va_P (dC, dI) vwCl (mw ar cy st1 sl) _ := hP
  rcases hw with ⟨n3, rfl, hf4, rfl⟩ | rfl
  · refine lv_if_eq (tgt := 29) hx hb dX12_perils_10 (by decide) (fun cc => absurd cc (by decide)) (fun _ => ?_)
    refine lv_aload_n hx hb dX12_perils_13 rfl (lv_at hl 0 rfl) ?_
    refine lv_iload_n hx hb dX12_perils_14 rfl (lv_at hl 1 rfl) ?_
    refine va_calli (va_runV (As := [.int (nI n3)]) (rest := []) ⟨hx, hb, hml, hown, hts⟩ (m_dogsOf l dC dI ar cy _ hN st1 sl (nI n3)  hG.1) (cwV 1 hts gX12_perils_X12_dogsOf rfl rfl rfl (by decide +kernel) ⟨Nat.le_of_ble_eq_true rfl, Nat.le_of_ble_eq_true rfl⟩) ⟨fun a U g mk q => ⟨q.1, mPre.blind q.2⟩, va_recv hK hP (ci := 11) (q0 := 0) rfl rfl, fun U hU hW => ⟨rfl, mPre.of hP hK hU hW⟩⟩ rfl rfl hl.1 rfl (lv_room (Nat.le_of_ble_eq_true rfl)) dX12_perils_15 ⟨Nat.le_of_ble_eq_true rfl, Nat.le_of_ble_eq_true rfl⟩) hS (fun q _ h => MA.le hS.1 q h) (MA.le hS.1) (fun r5 x t H locs ht hvm hw hB _ _ hS => ?_)
    have hP := mB.at ht hB
    clear hB ht hvm
    obtain ⟨rfl, hw⟩ := hw
    have hP : va_P (dC, dI) vwCl (mw ar cy st1 sl) _ := hP
    clear hw
    refine lv_if_ne (tgt := 29) hx hb dX12_perils_18 (by decide) (fun c2 => ?_) (fun c2 => ?_)
    · refine lv_iconst (v := (-1)) hx hb dX12_perils_29 (by decide) ?_
      exact W.iret (v := (-1)) hx hb hr (fun t ht hW => ⟨⟨(-1), (st1, sl), rfl, ⟨hG, hL, trivial⟩, mB.of ht hP⟩, hS.F ht⟩) hS.2.2 dX12_perils_30
    · refine lv_aload_n hx hb dX12_perils_21 rfl (lv_at hl 0 rfl) ?_
      refine lv_iload_n hx hb dX12_perils_22 rfl (lv_at hl 1 rfl) ?_
      refine va_calli (va_runV (As := [.int (nI n3)]) (rest := []) ⟨hx, hb, hml, hown, hts⟩ (m_layPerils l dC dI ar cy _ hN st1 sl n3 (by omega) hG.1) (cwV 1 hts gX12_perils_X12_layPerils rfl rfl rfl (by decide +kernel) ⟨Nat.le_of_ble_eq_true rfl, Nat.le_of_ble_eq_true rfl⟩) ⟨fun a U g mk q => ⟨q.1, mPre.blind q.2⟩, va_recv hK hP (ci := 11) (q0 := 0) rfl rfl, fun U hU hW => ⟨rfl, mPre.of hP hK hU hW⟩⟩ rfl rfl hl.1 rfl (lv_room (Nat.le_of_ble_eq_true rfl)) dX12_perils_23 ⟨Nat.le_of_ble_eq_true rfl, Nat.le_of_ble_eq_true rfl⟩) hS (fun q _ h => MA.le hS.1 q h) (MA.le hS.1) (fun r6 x t H locs ht hvm hw hB _ _ hS => ?_)
      have hP := mB.at ht hB
      clear hB ht hvm
      obtain ⟨st7, sl8⟩ := x
      obtain ⟨hG2, hL2, hw⟩ := hw
      have hL : LQ [7, 9] sl sl8 := hL.tr hL2 (by decide)
      clear hL2
      dsimp only at hw
      have hP : va_P (dC, dI) vwCl (mw ar cy st7 sl8) _ := hP
      have hG : MG [1, 2, 3, 4, 5, 6, 7, 8, 9, 10, 11, 12, 13, 14, 15, 16, 17, 19, 20, 21, 22, 23] st st7 := hG.tr hG2 (by decide)
      clear hG2
      have hf9 := hw
      refine lv_goto (tgt := 30) hx hb dX12_perils_26 (by decide) ?_
      exact W.iret (v := r6) hx hb hr (fun t ht hW => ⟨⟨r6, (st7, sl8), rfl, ⟨hG, hL, trivial⟩, mB.of ht hP⟩, hS.F ht⟩) hS.2.2 dX12_perils_30
  · refine lv_if_eq (tgt := 29) hx hb dX12_perils_10 (by decide) (fun _ => ?_) (fun cc => absurd (by decide) cc)
    refine lv_iconst (v := (-1)) hx hb dX12_perils_29 (by decide) ?_
    exact W.iret (v := (-1)) hx hb hr (fun t ht hW => ⟨⟨(-1), (st1, sl), rfl, ⟨hG, hL, trivial⟩, mB.of ht hP⟩, hS.F ht⟩) hS.2.2 dX12_perils_30
