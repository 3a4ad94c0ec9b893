set_option maxHeartbeats 4000000 in
set_option maxRecDepth 100000 in
theorem m_sentence (l : Launch) (dC : Nat → ClassId) (dI : Nat → Nat → Nat) (ar : Nat → Nat) (cy : Nat → ClassId) (sz : Nat) (hN : MN ar) (st : Nat → Nat → Int32) (sl : Nat → Nat → Int64) (hI : MI st) (hNK : NKm st) : Met l yX12_sentence wsX12_sentence ({ frames := 38, cells := 0, slots := 0, locals := 814 }) (va_Pc [.ref (ar 0)] (mPre dC dI ar cy sz st sl)) (va_Qi (fun (r : Int32) (x : MT) => MG [2, 7, 13, 14, 15, 19, 20, 21, 22] st x.1 ∧ LQ [7, 9] sl x.2 ∧ (x.1 0 2 = 0 ∧ NKm x.1 ∧ (NKn st → NKn x.1))) (mB dC dI ar cy) (MA ar sz)) 0 0 (MA ar sz) := by
  refine Met.ofW (cc := cX12_sentence) (maxL := 2) (ret := (some .int)) (by decide) rfl ?_
  intro p e s m args below meth c s₁ B hml hv
  obtain ⟨rfl, hsz, hP, hK⟩ := hv
  have hx := B.exec
  have hb := B.bytes
  have hr := B.returns
  have hts := atoms_spec (ws := wsX12_sentence) B.pre
  have hown : s.vm.findClass RX12 = some m.cls := findClass_of_methodNamed B.named
  subst hsz
  have hS : va_S (MA ar s.heap.size) s.heap s.heap [] := va_S.rf
  have hG : MG [2, 7, 13, 14, 15, 19, 20, 21, 22] st st := MG.rf hI
  have hl := lv_entry ([.ref (ar 0)]) (n := 2) (Nat.le_of_ble_eq_true rfl)
  rw [lg_entry_eq]
  generalize (lg_sl ([.ref (ar 0)]) ++ List.replicate (2 - (lg_sl ([.ref (ar 0)])).length) Slot.unset).toArray = ls at hl ⊢
  have hl : lv_has ls 2 [(0, .ref (ar 0))] := hl
  clear hI
  have hG6 : MG [6] st st := MG.rf hG.1
  have hL : LQ [7, 9] sl sl := LQ.rf
  refine lv_aload_n hx hb dX12_sentence_0 rfl (lv_at hl 0 rfl) ?_
  refine lv_sipush (v := 200) hx hb dX12_sentence_1 (by decide) ?_
  refine va_callv (va_runV (As := [.int 200]) (rest := []) ⟨hx, hb, hml, hown, hts⟩ (m_begin l dC dI ar cy _ hN st sl 200  hG.1) (cwV 1 hts gX12_sentence_X12_begin rfl rfl rfl (by decide +kernel) ⟨Nat.le_of_ble_eq_true rfl, Nat.le_of_ble_eq_true rfl⟩) ⟨fun a U g mk q => ⟨q.1, mPre.blind q.2⟩, va_recv hK hP (ci := 11) (q0 := 0) rfl rfl, fun U hU hW => ⟨rfl, mPre.of hP hK hU hW⟩⟩ rfl rfl hl.1 rfl (lv_room (Nat.le_of_ble_eq_true rfl)) dX12_sentence_4 ⟨Nat.le_of_ble_eq_true rfl, Nat.le_of_ble_eq_true rfl⟩) hS (fun q _ h => MA.le hS.1 q h) (MA.le hS.1) (fun x t H locs ht hvm hw hB _ _ hS => ?_)
  have hP := mB.at ht hB
  clear hB ht hvm
  obtain ⟨st2, sl3⟩ := x
  obtain ⟨hG2, hL2, hw⟩ := hw
  have hL : LQ [7, 9] sl sl3 := hL.tr hL2 (by decide)
  clear hL2
  dsimp only at hw
  have hP : va_P (dC, dI) vwCl (mw ar cy st2 sl3) _ := hP
  have hG : MG [2, 7, 13, 14, 15, 19, 20, 21, 22] st st2 := hG.tr hG2 (by decide)
  have hG4 : MG [6] st st2 := hG6.tr hG2 (by decide)
  have hGst2 : MG [2, 6, 7, 8, 9, 10, 11, 12, 13, 14, 15, 16, 19, 20, 21, 22] st st2 := hG2
  clear hG2
  obtain ⟨n5, n6, hf7, hf8⟩ := hw
  have hf7c := hf7.2.2.1
  have hf7d := hf7.2.2.2
  refine lv_aload_n hx hb dX12_sentence_7 rfl (lv_at hl 0 rfl) ?_
  refine lv_iconst (v := 0) hx hb dX12_sentence_8 (by decide) ?_
  refine va_put (D := (dC, dI)) (ci := 11) (v := .int 0) (ty := .int) (C := RX12) (T := TX12) (N := 47) hx hb hts ii_X12_sentence tyX12 tyX12_ok nmX12 hown hK hP (mD hN _ _ _ _) hS 0 rfl rfl 43 (by decide) (hts _ mm_X12_sentence_1) (fun _ hh => hh) rfl (by decide +kernel) rfl rfl (Nat.le_of_ble_eq_true rfl) dX12_sentence_9 (fun H locs hP _ hS => ?_)
  have hP : va_P (dC, dI) vwCl (mw ar cy (up2 st2 0 43 0) sl3) H := hP
  obtain ⟨st9, est9⟩ : ∃ y, y = up2 st2 0 43 0 := ⟨_, rfl⟩
  have hG : MG [2, 7, 13, 14, 15, 19, 20, 21, 22] st st9 := by rw [est9]; exact hG.up (r0) (pn (by decide : pcl 0 43 = 9) (by decide))
  have hG10 : MG [6] st st9 := by rw [est9]; exact hG4.up (r0) (pn (by decide : pcl 0 43 = 9) (by decide))
  rw [← est9] at hP
  refine lv_aload_n hx hb dX12_sentence_12 rfl (lv_at hl 0 rfl) ?_
  refine lv_iconst (v := 0) hx hb dX12_sentence_13 (by decide) ?_
  refine va_put (D := (dC, dI)) (ci := 11) (v := .int 0) (ty := .int) (C := RX12) (T := TX12) (N := 47) hx hb hts ii_X12_sentence tyX12 tyX12_ok nmX12 hown hK hP (mD hN _ _ _ _) hS 0 rfl rfl 44 (by decide) (hts _ mm_X12_sentence_2) (fun _ hh => hh) rfl (by decide +kernel) rfl rfl (Nat.le_of_ble_eq_true rfl) dX12_sentence_14 (fun H locs hP _ hS => ?_)
  have hP : va_P (dC, dI) vwCl (mw ar cy (up2 st9 0 44 0) sl3) H := hP
  obtain ⟨st11, est11⟩ : ∃ y, y = up2 st9 0 44 0 := ⟨_, rfl⟩
  have hG : MG [2, 7, 13, 14, 15, 19, 20, 21, 22] st st11 := by rw [est11]; exact hG.up (r0) (pn (by decide : pcl 0 44 = 10) (by decide))
  have hG12 : MG [6] st st11 := by rw [est11]; exact hG10.up (r0) (pn (by decide : pcl 0 44 = 10) (by decide))
  rw [← est11] at hP
  refine lv_aload_n hx hb dX12_sentence_17 rfl (lv_at hl 0 rfl) ?_
  refine lv_iconst (v := 0) hx hb dX12_sentence_18 (by decide) ?_
  refine va_put (D := (dC, dI)) (ci := 11) (v := .int 0) (ty := .int) (C := RX12) (T := TX12) (N := 47) hx hb hts ii_X12_sentence tyX12 tyX12_ok nmX12 hown hK hP (mD hN _ _ _ _) hS 0 rfl rfl 45 (by decide) (hts _ mm_X12_sentence_3) (fun _ hh => hh) rfl (by decide +kernel) rfl rfl (Nat.le_of_ble_eq_true rfl) dX12_sentence_19 (fun H locs hP _ hS => ?_)
  have hP : va_P (dC, dI) vwCl (mw ar cy (up2 st11 0 45 0) sl3) H := hP
  obtain ⟨st13, est13⟩ : ∃ y, y = up2 st11 0 45 0 := ⟨_, rfl⟩
  have hG : MG [2, 7, 13, 14, 15, 19, 20, 21, 22] st st13 := by rw [est13]; exact hG.up (r0) (pn (by decide : pcl 0 45 = 11) (by decide))
  have hG14 : MG [6] st st13 := by rw [est13]; exact hG12.up (r0) (pn (by decide : pcl 0 45 = 11) (by decide))
  rw [← est13] at hP
  refine lv_aload_n hx hb dX12_sentence_22 rfl (lv_at hl 0 rfl) ?_
  refine va_calli (va_runV (As := []) (rest := []) ⟨hx, hb, hml, hown, hts⟩ (m_readOr_0 l dC dI ar cy _ hN st13 sl3 0 0 n5 n6  hG.1 ((⟨by rw [est13, up2_ne (r := 0) (k := 45) (a := 0) (j := 5) _ _ (by omega), est11, up2_ne (r := 0) (k := 44) (a := 0) (j := 5) _ _ (by omega), est9, up2_ne (r := 0) (k := 43) (a := 0) (j := 5) _ _ (by omega), hf7.1], by rw [est13, up2_ne (r := 0) (k := 45) (a := 0) (j := 3) _ _ (by omega), est11, up2_ne (r := 0) (k := 44) (a := 0) (j := 3) _ _ (by omega), est9, up2_ne (r := 0) (k := 43) (a := 0) (j := 3) _ _ (by omega), hf7.2.1], by omega, by omega⟩ : TS st13 n5 n6)) (by rw [est13, up2_ne (r := 0) (k := 45) (a := 0) (j := 43) _ _ (by omega), est11, up2_ne (r := 0) (k := 44) (a := 0) (j := 43) _ _ (by omega), est9, up2_same]; rfl) (by rw [est13, up2_ne (r := 0) (k := 45) (a := 0) (j := 44) _ _ (by omega), est11, up2_same]; rfl) (by rw [est13, up2_same]) (by omega) (by omega) ((show NKm st13 by rw [est13]; exact (show NKm st11 from (show NKm st11 by rw [est11]; exact (show NKm st9 from (show NKm st9 by rw [est9]; exact (show NKm st2 from (NKm.mg hGst2 (by decide) hNK))))))))) (cwV 0 hts gX12_sentence_X12_readOr rfl rfl rfl (by decide +kernel) ⟨Nat.le_of_ble_eq_true rfl, Nat.le_of_ble_eq_true rfl⟩) ⟨fun a U g mk q => ⟨q.1, mPre.blind q.2⟩, va_recv hK hP (ci := 11) (q0 := 0) rfl rfl, fun U hU hW => ⟨rfl, mPre.of hP hK hU hW⟩⟩ rfl rfl hl.1 rfl (lv_room (Nat.le_of_ble_eq_true rfl)) dX12_sentence_23 ⟨Nat.le_of_ble_eq_true rfl, Nat.le_of_ble_eq_true rfl⟩) hS (fun q _ h => MA.le hS.1 q h) (MA.le hS.1) (fun r15 x t H locs ht hvm hw hB _ _ hS => ?_)
  have hP := mB.at ht hB
  clear hB ht hvm
  obtain ⟨st16, sl17⟩ := x
  obtain ⟨hG2, hL2, hw⟩ := hw
  have hL : LQ [7, 9] sl sl17 := hL.tr hL2 (by decide)
  clear hL2
  dsimp only at hw
  have hP : va_P (dC, dI) vwCl (mw ar cy st16 sl17) _ := hP
  have hG : MG [2, 7, 13, 14, 15, 19, 20, 21, 22] st st16 := hG.tr hG2 (by decide)
  have hG18 : MG [6] st st16 := hG14.tr hG2 (by decide)
  have hGst16 : MG [1, 2, 3, 6, 7, 13, 14, 15, 19, 20, 21, 22] st13 st16 := hG2
  clear hG2
  rcases hw with ⟨n19, n20, n21, n22, rfl, hf23, hf24, hf25, hf26, hf27, hf28, hf29, hf30, hf31, hf32, hf33, hf34⟩ | ⟨rfl, hf35, hf36⟩
  · have hf23c := hf23.2.2.1
    have hf23d := hf23.2.2.2
    refine lv_if_ne (tgt := 36) hx hb dX12_sentence_26 (by decide) (fun _ => ?_) (fun cc => absurd cc (by decide))
    refine lv_aload_n hx hb dX12_sentence_36 rfl (lv_at hl 0 rfl) ?_
    refine va_get (D := (dC, dI)) (ci := 11) (v := .int (st16 0 7)) (C := RX12) (T := TX12) (N := 47) hx hb hts ii_X12_sentence hown hK hP 0 rfl rfl 7 (by decide) (hts _ mm_X12_sentence_5) (fun _ hh => hh) rfl dX12_sentence_37 ?_
    refine lv_topi (fun z37 ez37 => ?_)
    refine lv_if_eq (tgt := 56) hx hb dX12_sentence_40 (by decide) (fun c2 => ?_) (fun c2 => ?_)
    · refine lv_aload_n hx hb dX12_sentence_56 rfl (lv_at hl 0 rfl) ?_
      refine va_get (D := (dC, dI)) (ci := 11) (v := .ref (ar 2)) (C := RX12) (T := TX12) (N := 47) hx hb hts ii_X12_sentence hown hK hP 0 rfl rfl 14 (by decide) (hts _ mm_X12_sentence_6) (fun _ hh => hh) rfl dX12_sentence_57 ?_
      refine lv_sipush (v := 131) hx hb dX12_sentence_60 (by decide) ?_
      refine lv_iconst (v := 1) hx hb dX12_sentence_63 (by decide) ?_
      refine va_iast hx hb hK hP (mD hN _ _ _ _) hS 2 1 rfl rfl (i := 131) (zz_in (by decide)) dX12_sentence_64 (fun H locs hP _ hS => ?_)
      have hP : va_P (dC, dI) vwCl (mw ar cy (up2 st16 2 131 1) sl17) H := hP
      obtain ⟨st38, est38⟩ : ∃ y, y = up2 st16 2 131 1 := ⟨_, rfl⟩
      have hG : MG [2, 7, 13, 14, 15, 19, 20, 21, 22] st st38 := by rw [est38]; exact hG.up (rz (by decide : mr 2 131 = 0)) (pn (by decide : pcl 2 131 = 0) (by decide))
      have hG39 : MG [6] st st38 := by rw [est38]; exact hG18.up (rz (by decide : mr 2 131 = 0)) (pn (by decide : pcl 2 131 = 0) (by decide))
      rw [← est38] at hP
      refine lv_aload_n hx hb dX12_sentence_65 rfl (lv_at hl 0 rfl) ?_
      refine va_get (D := (dC, dI)) (ci := 11) (v := .ref (ar 2)) (C := RX12) (T := TX12) (N := 47) hx hb hts ii_X12_sentence hown hK hP 0 rfl rfl 14 (by decide) (hts _ mm_X12_sentence_6) (fun _ hh => hh) rfl dX12_sentence_66 ?_
      refine lv_sipush (v := 132) hx hb dX12_sentence_69 (by decide) ?_
      refine lv_aload_n hx hb dX12_sentence_72 rfl (lv_at hl 0 rfl) ?_
      refine va_get (D := (dC, dI)) (ci := 11) (v := .int (st38 0 46)) (C := RX12) (T := TX12) (N := 47) hx hb hts ii_X12_sentence hown hK hP 0 rfl rfl 46 (by decide) (hts _ mm_X12_sentence_7) (fun _ hh => hh) rfl dX12_sentence_73 ?_
      refine zz_top (v := (nI n22)) (by show st38 0 46 = _; rw [est38, up2_ne (r := 2) (k := 131) (a := 0) (j := 46) _ _ (by omega), hf28]) ?_
      refine va_iast hx hb hK hP (mD hN _ _ _ _) hS 2 1 rfl rfl (i := 132) (zz_in (by decide)) dX12_sentence_76 (fun H locs hP _ hS => ?_)
      have hP : va_P (dC, dI) vwCl (mw ar cy (up2 st38 2 132 (nI n22)) sl17) H := hP
      obtain ⟨st40, est40⟩ : ∃ y, y = up2 st38 2 132 (nI n22) := ⟨_, rfl⟩
      have hG : MG [2, 7, 13, 14, 15, 19, 20, 21, 22] st st40 := by rw [est40]; exact hG.up (rn (n := n22) (by decide : mr 2 132 = 60) (by omega)) (pn (by decide : pcl 2 132 = 0) (by decide))
      have hG41 : MG [6] st st40 := by rw [est40]; exact hG39.up (rn (n := n22) (by decide : mr 2 132 = 60) (by omega)) (pn (by decide : pcl 2 132 = 0) (by decide))
      rw [← est40] at hP
      refine lv_iconst (v := 0) hx hb dX12_sentence_77 (by decide) ?_
      refine lv_istore_n (lv' := [(1, .int 0), (0, .ref (ar 0))]) hx hb dX12_sentence_78 rfl hl (by decide) rfl (fun ls hl => ?_)
      refine zz_wf (fun n stk H locs ls => ∃ k42 : Nat, ∃ st43 : Nat → Nat → Int32, ∃ sl44 : Nat → Nat → Int64, n = 241 - k42 ∧ 0 ≤ k42 ∧ k42 < 241 ∧ (∀ j, j < k42 → st43 2 (133 + j) = st43 16 j) ∧ NKm st43 ∧ va_P (dC, dI) vwCl (mw ar cy st43 sl44) H ∧ MG [2, 7, 13, 14, 15, 19, 20, 21, 22] st st43 ∧ MG [1] st40 st43 ∧ LQ [7, 9] sl sl44 ∧ va_S (MA ar s.heap.size) s.heap H locs ∧ lv_has ls 2 [(1, .int (nI k42)), (0, .ref (ar 0))] ∧ stk = []) ?_ (241 - 0) _ _ _ _ ⟨0, st40, sl17, rfl, by omega, by omega, by intro jj hk; omega, (show NKm st40 by rw [est40]; exact (show NKm st38 from (show NKm st38 by rw [est38]; exact (show NKm st16 from hf34)))), hP, hG, MG.rf hG.1, hL, hS, lv_sub hl [0, 1] rfl, rfl⟩
      rintro nn stk H locs ls ⟨k42, st43, sl44, hm49, hv46_0, hv47_1, hv48_0, hv49_1, hP, hG, hG45, hL, hS, hl, rfl⟩ ih50
      refine lv_iload_n hx hb dX12_sentence_79 rfl (lv_at hl 0 rfl) ?_
      refine lv_sipush (v := 240) hx hb dX12_sentence_80 (by decide) ?_
      refine lv_icmp_ge (tgt := 108) hx hb dX12_sentence_83 (by decide) (fun c3 => ?_) (fun c3 => ?_)
      · have c3 : 240 ≤ k42 := (nI_leI (a := 240) (b := k42) (by omega) (by omega)).mp c3
        refine lv_aload_n hx hb dX12_sentence_108 rfl (lv_at hl 1 rfl) ?_
        refine va_get (D := (dC, dI)) (ci := 11) (v := .int (st43 0 44)) (C := RX12) (T := TX12) (N := 47) hx hb hts ii_X12_sentence hown hK hP 0 rfl rfl 44 (by decide) (hts _ mm_X12_sentence_2) (fun _ hh => hh) rfl dX12_sentence_109 ?_
        obtain ⟨n51, hn51, en51⟩ := hG.1.at (r := 0) (k := 44) (by decide : mr 0 44 = 21) (by decide)
        refine zz_top (v := nI n51) (by exact en51) ?_
        exact W.iret (v := (nI n51)) hx hb hr (fun t ht hW => ⟨⟨(nI n51), (st43, sl44), rfl, ⟨hG, hL, ⟨by show st43 0 2 = 0; rw [hG45.2 0 2 (by decide), est40, up2_ne (r := 2) (k := 132) (a := 0) (j := 2) _ _ (by omega), est38, up2_ne (r := 2) (k := 131) (a := 0) (j := 2) _ _ (by omega), hGst16.2 0 2 (by decide), est13, up2_ne (r := 0) (k := 45) (a := 0) (j := 2) _ _ (by omega), est11, up2_ne (r := 0) (k := 44) (a := 0) (j := 2) _ _ (by omega), est9, up2_ne (r := 0) (k := 43) (a := 0) (j := 2) _ _ (by omega), hf8], hv49_1, fun _ => NKf.eq hv49_1 (fun jj hk => (hv48_0 jj (by omega)).trans (by rw [Nat.zero_add]))⟩⟩, mB.of ht hP⟩, hS.F ht⟩) hS.2.2 dX12_sentence_112
      · have c3 : ¬ 240 ≤ k42 := fun hh => c3 ((nI_leI (a := 240) (b := k42) (by omega) (by omega)).mpr hh)
        refine lv_aload_n hx hb dX12_sentence_86 rfl (lv_at hl 1 rfl) ?_
        refine va_get (D := (dC, dI)) (ci := 11) (v := .ref (ar 2)) (C := RX12) (T := TX12) (N := 47) hx hb hts ii_X12_sentence hown hK hP 0 rfl rfl 14 (by decide) (hts _ mm_X12_sentence_6) (fun _ hh => hh) rfl dX12_sentence_87 ?_
        refine lv_sipush (v := 133) hx hb dX12_sentence_90 (by decide) ?_
        refine lv_iload_n hx hb dX12_sentence_93 rfl (lv_at hl 0 rfl) ?_
        refine lv_iadd hx hb dX12_sentence_94 ?_
        refine zz_top (v := nI (133 + k42)) (nI_add 133 k42) ?_
        refine lv_aload_n hx hb dX12_sentence_95 rfl (lv_at hl 1 rfl) ?_
        refine va_get (D := (dC, dI)) (ci := 11) (v := .ref (ar 16)) (C := RX12) (T := TX12) (N := 47) hx hb hts ii_X12_sentence hown hK hP 0 rfl rfl 42 (by decide) (hts _ mm_X12_sentence_8) (fun _ hh => hh) rfl dX12_sentence_96 ?_
        refine lv_iload_n hx hb dX12_sentence_99 rfl (lv_at hl 0 rfl) ?_
        refine va_iald hx hb hK hP 16 15 rfl rfl (i := (nI k42)) (vp_in_nI (by omega) (by decide)) dX12_sentence_100 ?_
        refine zz_top (v := st43 16 k42) (by rw [nI_clamp (by omega)]) ?_
        have hIst43 := hG.1
        refine va_iast hx hb hK hP (mD hN _ _ _ _) hS 2 1 rfl rfl (i := (nI (133 + k42))) (vp_in_nI (by omega) (by decide)) dX12_sentence_101 (fun H locs hP _ hS => ?_)
        rw [nI_clamp (by omega)] at hP
        have hP : va_P (dC, dI) vwCl (mw ar cy (up2 st43 2 (133 + k42) (st43 16 k42)) sl44) H := hP
        obtain ⟨st52, est52⟩ : ∃ y, y = up2 st43 2 (133 + k42) (st43 16 k42) := ⟨_, rfl⟩
        have hG : MG [2, 7, 13, 14, 15, 19, 20, 21, 22] st st52 := by rw [est52]; exact hG.up (rc hIst43 (((mr_2_133_373 (133 + k42) (by omega) (by omega))).trans rfl)) (pn (pcl_2_133_373 (133 + k42) (by omega) (by omega)) (by decide))
        have hG53 : MG [1] st40 st52 := by rw [est52]; exact hG45.up (rc hIst43 (((mr_2_133_373 (133 + k42) (by omega) (by omega))).trans rfl)) (pn (pcl_2_133_373 (133 + k42) (by omega) (by omega)) (by decide))
        rw [← est52] at hP
        refine lv_iinc (v := (nI (k42 + 1))) (lv' := [(1, .int (nI (k42 + 1))), (0, .ref (ar 0))]) hx hb dX12_sentence_102 hl (k := 0) rfl (nI_add k42 1) (by decide) rfl (fun ls hl => ?_)
        refine lv_goto (tgt := 79) hx hb dX12_sentence_105 (by decide) ?_
        exact ih50 (241 - (k42 + 1)) _ _ _ _ (by omega) ⟨(k42 + 1), st52, sl44, rfl, by omega, by omega, by intro jj hk; show st52 2 (133 + jj) = st52 16 jj; rw [est52, up2_ne (r := 2) (k := (133 + k42)) (a := 16) (j := jj) _ _ (by omega)]; by_cases ee : jj = k42; (rw [ee, up2_same]); (rw [up2_ne (r := 2) (k := (133 + k42)) (a := 2) (j := 133 + jj) _ _ (by omega)]; exact hv48_0 jj (by omega)), (show NKm st52 by rw [est52]; exact (show NKm st43 from hv49_1)), hP, hG, hG53, hL, hS, lv_sub hl [0, 1] rfl, rfl⟩
    · refine lv_aload_n hx hb dX12_sentence_43 rfl (lv_at hl 0 rfl) ?_
      refine lv_iconst (v := 1) hx hb dX12_sentence_44 (by decide) ?_
      refine va_calli (va_runV (As := [.int 1]) (rest := []) ⟨hx, hb, hml, hown, hts⟩ (m_bad l dC dI ar cy _ hN st16 sl17 1  hG.1) (cwV 1 hts gX12_sentence_X12_bad rfl rfl rfl (by decide +kernel) ⟨Nat.le_of_ble_eq_true rfl, Nat.le_of_ble_eq_true rfl⟩) ⟨fun a U g mk q => ⟨q.1, mPre.blind q.2⟩, va_recv hK hP (ci := 11) (q0 := 0) rfl rfl, fun U hU hW => ⟨rfl, mPre.of hP hK hU hW⟩⟩ rfl rfl hl.1 rfl (lv_room (Nat.le_of_ble_eq_true rfl)) dX12_sentence_45 ⟨Nat.le_of_ble_eq_true rfl, Nat.le_of_ble_eq_true rfl⟩) hS (fun q _ h => MA.le hS.1 q h) (MA.le hS.1) (fun r54 x t H locs ht hvm hw hB _ _ hS => ?_)
      have hP := mB.at ht hB
      clear hB ht hvm
      obtain ⟨st55, sl56⟩ := x
      obtain ⟨hG2, hL2, hw⟩ := hw
      have hL : LQ [7, 9] sl sl56 := hL.tr hL2 (by decide)
      clear hL2
      have hP : va_P (dC, dI) vwCl (mw ar cy st55 sl56) _ := hP
      have hG : MG [2, 7, 13, 14, 15, 19, 20, 21, 22] st st55 := hG.tr hG2 (by decide)
      have hG57 : MG [6] st st55 := hG18.tr hG2 (by decide)
      have hGst55 : MG [1, 2, 3, 4, 5, 6, 7, 8, 9, 10, 11, 12, 13, 14, 15, 16, 17, 19, 20, 21, 22] st16 st55 := hG2
      clear hG2
      obtain rfl := hw
      refine lv_pop hx hb dX12_sentence_48 rfl ?_
      refine lv_iconst (v := (-1)) hx hb dX12_sentence_49 (by decide) ?_
      refine lv_aload_n hx hb dX12_sentence_50 rfl (lv_at hl 0 rfl) ?_
      refine va_get (D := (dC, dI)) (ci := 11) (v := .int (st55 0 11)) (C := RX12) (T := TX12) (N := 47) hx hb hts ii_X12_sentence hown hK hP 0 rfl rfl 11 (by decide) (hts _ mm_X12_sentence_4) (fun _ hh => hh) rfl dX12_sentence_51 ?_
      refine lv_topi (fun z58 ez58 => ?_)
      refine lv_isub hx hb dX12_sentence_54 ?_
      refine lv_topi (fun z59 ez59 => ?_)
      exact W.iret (v := z59) hx hb hr (fun t ht hW => ⟨⟨z59, (st55, sl56), rfl, ⟨hG, hL, ⟨by show st55 0 2 = 0; rw [hGst55.2 0 2 (by decide), hGst16.2 0 2 (by decide), est13, up2_ne (r := 0) (k := 45) (a := 0) (j := 2) _ _ (by omega), est11, up2_ne (r := 0) (k := 44) (a := 0) (j := 2) _ _ (by omega), est9, up2_ne (r := 0) (k := 43) (a := 0) (j := 2) _ _ (by omega), hf8], (NKm.mg hGst55 (by decide) hf34), fun hh => NKn.mg hG57 (by decide) hh⟩⟩, mB.of ht hP⟩, hS.F ht⟩) hS.2.2 dX12_sentence_55
  · refine lv_if_ne (tgt := 36) hx hb dX12_sentence_26 (by decide) (fun cc => absurd (by decide) cc) (fun _ => ?_)
    refine lv_iconst (v := (-1)) hx hb dX12_sentence_29 (by decide) ?_
    refine lv_aload_n hx hb dX12_sentence_30 rfl (lv_at hl 0 rfl) ?_
    refine va_get (D := (dC, dI)) (ci := 11) (v := .int (st16 0 11)) (C := RX12) (T := TX12) (N := 47) hx hb hts ii_X12_sentence hown hK hP 0 rfl rfl 11 (by decide) (hts _ mm_X12_sentence_4) (fun _ hh => hh) rfl dX12_sentence_31 ?_
    refine lv_topi (fun z60 ez60 => ?_)
    refine lv_isub hx hb dX12_sentence_34 ?_
    refine lv_topi (fun z61 ez61 => ?_)
    exact W.iret (v := z61) hx hb hr (fun t ht hW => ⟨⟨z61, (st16, sl17), rfl, ⟨hG, hL, ⟨by show st16 0 2 = 0; rw [hGst16.2 0 2 (by decide), est13, up2_ne (r := 0) (k := 45) (a := 0) (j := 2) _ _ (by omega), est11, up2_ne (r := 0) (k := 44) (a := 0) (j := 2) _ _ (by omega), est9, up2_ne (r := 0) (k := 43) (a := 0) (j := 2) _ _ (by omega), hf8], hf36, fun hh => NKn.mg hG18 (by decide) hh⟩⟩, mB.of ht hP⟩, hS.F ht⟩) hS.2.2 dX12_sentence_35
