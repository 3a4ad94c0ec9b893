set_option maxHeartbeats 4000000 in
set_option maxRecDepth 100000 in
theorem m_oneDay (l : Launch) (dC : Nat → ClassId) (dI : Nat → Nat → Nat) (ar : Nat → Nat) (cy : Nat → ClassId) (sz : Nat) (hN : MN ar) (st : Nat → Nat → Int32) (sl : Nat → Nat → Int64) (hI : MI st) : Met l yX12_oneDay wsX12_oneDay ({ frames := 5, cells := 0, slots := 0, locals := 113 }) (va_Pc [.ref (ar 0)] (mPre dC dI ar cy sz st sl)) (va_Qv (fun (x : MT) => MG [1, 2, 3, 4, 5, 6, 7, 8, 9, 10, 11, 12, 13, 14, 15, 16, 17, 19, 20, 21, 22, 23] st x.1 ∧ LQ [7, 9] sl x.2 ∧ (True)) (mB dC dI ar cy) (MA ar sz)) 0 0 (MA ar sz) := by
  refine Met.ofW (cc := cX12_oneDay) (maxL := 3) (ret := none) (by decide) rfl ?_
  intro p e s m args below meth c s₁ B hml hv
  obtain ⟨rfl, hsz, hP, hK⟩ := hv
  have hx := B.exec
  have hb := B.bytes
  have hr := B.returns
  have hts := atoms_spec (ws := wsX12_oneDay) B.pre
  have hown : s.vm.findClass RX12 = some m.cls := findClass_of_methodNamed B.named
  subst hsz
  have hS : va_S (MA ar s.heap.size) s.heap s.heap [] := va_S.rf
  have hG : MG [1, 2, 3, 4, 5, 6, 7, 8, 9, 10, 11, 12, 13, 14, 15, 16, 17, 19, 20, 21, 22, 23] st st := MG.rf hI
  have hl := lv_entry ([.ref (ar 0)]) (n := 3) (Nat.le_of_ble_eq_true rfl)
  rw [lg_entry_eq]
  generalize (lg_sl ([.ref (ar 0)]) ++ List.replicate (3 - (lg_sl ([.ref (ar 0)])).length) Slot.unset).toArray = ls at hl ⊢
  have hl : lv_has ls 3 [(0, .ref (ar 0))] := hl
  clear hI
  have hL : LQ [7, 9] sl sl := LQ.rf
  refine lv_aload_n hx hb dX12_oneDay_0 rfl (lv_at hl 0 rfl) ?_
  refine lv_iconst (v := 0) hx hb dX12_oneDay_1 (by decide) ?_
  refine va_put (D := (dC, dI)) (ci := 11) (v := .int 0) (ty := .int) (C := RX12) (T := TX12) (N := 47) hx hb hts ii_X12_oneDay tyX12 tyX12_ok nmX12 hown hK hP (mD hN _ _ _ _) hS 0 rfl rfl 26 (by decide) (hts _ mm_X12_oneDay_1) (fun _ hh => hh) rfl (by decide +kernel) rfl rfl (Nat.le_of_ble_eq_true rfl) dX12_oneDay_2 (fun H locs hP _ hS => ?_)
  have hP : va_P (dC, dI) vwCl (mw ar cy (up2 st 0 26 0) sl) H := hP
  obtain ⟨st1, hP, hG⟩ : ∃ y, va_P (dC, dI) vwCl (mw ar cy y sl) H ∧ MG [1, 2, 3, 4, 5, 6, 7, 8, 9, 10, 11, 12, 13, 14, 15, 16, 17, 19, 20, 21, 22, 23] st y := ⟨up2 st 0 26 0, hP, hG.up (rz (by decide : mr 0 26 = 0)) (pn (by decide : pcl 0 26 = 0) (by decide))⟩
  refine lv_iconst (v := 0) hx hb dX12_oneDay_5 (by decide) ?_
  refine lv_istore_n (lv' := [(1, .int 0), (0, .ref (ar 0))]) hx hb dX12_oneDay_6 rfl hl (by decide) rfl (fun ls hl => ?_)
  refine zz_wf (fun n stk H locs ls => ∃ k2 : Nat, ∃ st3 : Nat → Nat → Int32, ∃ sl4 : Nat → Nat → Int64, n = 25 - k2 ∧ 0 ≤ k2 ∧ k2 < 25 ∧ va_P (dC, dI) vwCl (mw ar cy st3 sl4) H ∧ MG [1, 2, 3, 4, 5, 6, 7, 8, 9, 10, 11, 12, 13, 14, 15, 16, 17, 19, 20, 21, 22, 23] st st3 ∧ LQ [7, 9] sl sl4 ∧ va_S (MA ar s.heap.size) s.heap H locs ∧ lv_has ls 3 [(1, .int (nI k2)), (0, .ref (ar 0))] ∧ stk = []) ?_ (25 - 0) _ _ _ _ ⟨0, st1, sl, rfl, by omega, by omega, hP, hG, hL, hS, lv_sub hl [0, 1] rfl, rfl⟩
  rintro nn stk H locs ls ⟨k2, st3, sl4, hm6, hv5_0, hv6_1, hP, hG, hL, hS, hl, rfl⟩ ih7
  refine lv_iload_n hx hb dX12_oneDay_7 rfl (lv_at hl 0 rfl) ?_
  refine lv_bipush (v := 24) hx hb dX12_oneDay_8 (by decide) ?_
  refine lv_icmp_ge (tgt := 43) hx hb dX12_oneDay_10 (by decide) (fun c1 => ?_) (fun c1 => ?_)
  · have c1 : 24 ≤ k2 := (nI_leI (a := 24) (b := k2) (by omega) (by omega)).mp c1
    refine lv_iconst (v := 0) hx hb dX12_oneDay_43 (by decide) ?_
    refine lv_istore_n (lv' := [(1, .int 0), (0, .ref (ar 0))]) hx hb dX12_oneDay_44 rfl hl (by decide) rfl (fun ls hl => ?_)
    refine zz_wf (fun n stk H locs ls => ∃ k8 : Nat, ∃ st9 : Nat → Nat → Int32, ∃ sl10 : Nat → Nat → Int64, n = 9 - k8 ∧ 0 ≤ k8 ∧ k8 < 9 ∧ va_P (dC, dI) vwCl (mw ar cy st9 sl10) H ∧ MG [1, 2, 3, 4, 5, 6, 7, 8, 9, 10, 11, 12, 13, 14, 15, 16, 17, 19, 20, 21, 22, 23] st st9 ∧ LQ [7, 9] sl sl10 ∧ va_S (MA ar s.heap.size) s.heap H locs ∧ lv_has ls 3 [(1, .int (nI k8)), (0, .ref (ar 0))] ∧ stk = []) ?_ (9 - 0) _ _ _ _ ⟨0, st3, sl4, rfl, by omega, by omega, hP, hG, hL, hS, lv_sub hl [0, 1] rfl, rfl⟩
    rintro nn stk H locs ls ⟨k8, st9, sl10, hm12, hv11_0, hv12_1, hP, hG, hL, hS, hl, rfl⟩ ih13
    refine lv_iload_n hx hb dX12_oneDay_45 rfl (lv_at hl 0 rfl) ?_
    refine lv_aload_n hx hb dX12_oneDay_46 rfl (lv_at hl 1 rfl) ?_
    refine va_get (D := (dC, dI)) (ci := 11) (v := .ref (ar 2)) (C := RX12) (T := TX12) (N := 47) hx hb hts ii_X12_oneDay hown hK hP 0 rfl rfl 14 (by decide) (hts _ mm_X12_oneDay_2) (fun _ hh => hh) rfl dX12_oneDay_47 ?_
    refine lv_iconst (v := 1) hx hb dX12_oneDay_50 (by decide) ?_
    refine va_iald hx hb hK hP 2 1 rfl rfl (i := 1) (zz_in (by decide)) dX12_oneDay_51 ?_
    obtain ⟨n14, hn14, en14⟩ := hG.1.at (r := 2) (k := 1) (by decide : mr 2 1 = 9) (by decide)
    refine zz_top (v := nI n14) (by exact en14) ?_
    clear en14
    refine lv_icmp_ge (tgt := 114) hx hb dX12_oneDay_52 (by decide) (fun c2 => ?_) (fun c2 => ?_)
    · have c2 : n14 ≤ k8 := (nI_leI (a := n14) (b := k8) (by omega) (by omega)).mp c2
      refine lv_aload_n hx hb dX12_oneDay_114 rfl (lv_at hl 1 rfl) ?_
      refine va_get (D := (dC, dI)) (ci := 11) (v := .ref (ar 2)) (C := RX12) (T := TX12) (N := 47) hx hb hts ii_X12_oneDay hown hK hP 0 rfl rfl 14 (by decide) (hts _ mm_X12_oneDay_2) (fun _ hh => hh) rfl dX12_oneDay_115 ?_
      refine lv_bipush (v := 61) hx hb dX12_oneDay_118 (by decide) ?_
      refine lv_dup2_11 hx hb dX12_oneDay_120 rfl rfl ?_
      refine va_iald hx hb hK hP 2 1 rfl rfl (i := 61) (zz_in (by decide)) dX12_oneDay_121 ?_
      refine lv_topi (fun z15 ez15 => ?_)
      clear ez15
      refine lv_iconst (v := 1) hx hb dX12_oneDay_122 (by decide) ?_
      refine lv_iadd hx hb dX12_oneDay_123 ?_
      refine lv_topi (fun z16 ez16 => ?_)
      clear ez16
      refine va_iast hx hb hK hP (mD hN _ _ _ _) hS 2 1 rfl rfl (i := 61) (zz_in (by decide)) dX12_oneDay_124 (fun H locs hP _ hS => ?_)
      have hP : va_P (dC, dI) vwCl (mw ar cy (up2 st9 2 61 z16) sl10) H := hP
      obtain ⟨st17, hP, hG⟩ : ∃ y, va_P (dC, dI) vwCl (mw ar cy y sl10) H ∧ MG [1, 2, 3, 4, 5, 6, 7, 8, 9, 10, 11, 12, 13, 14, 15, 16, 17, 19, 20, 21, 22, 23] st y := ⟨up2 st9 2 61 z16, hP, hG.up (rz (by decide : mr 2 61 = 0)) (pn (by decide : pcl 2 61 = 0) (by decide))⟩
      exact W.vret hx hb hr (fun t ht hW => ⟨⟨(st17, sl10), rfl, ⟨hG, hL, trivial⟩, mB.of ht hP⟩, hS.F ht⟩) hS.2.2 dX12_oneDay_125
    · have c2 : ¬ n14 ≤ k8 := fun hh => c2 ((nI_leI (a := n14) (b := k8) (by omega) (by omega)).mpr hh)
      refine lv_aload_n hx hb dX12_oneDay_55 rfl (lv_at hl 1 rfl) ?_
      refine va_get (D := (dC, dI)) (ci := 11) (v := .int (st9 0 26)) (C := RX12) (T := TX12) (N := 47) hx hb hts ii_X12_oneDay hown hK hP 0 rfl rfl 26 (by decide) (hts _ mm_X12_oneDay_1) (fun _ hh => hh) rfl dX12_oneDay_56 ?_
      refine lv_topi (fun z18 ez18 => ?_)
      clear ez18
      refine lv_iload_n hx hb dX12_oneDay_59 rfl (lv_at hl 0 rfl) ?_
      refine va_calli (va_runS (As := [.int z18, .int (nI k8)]) (rest := []) ⟨hx, hb, hml, hown, hts⟩ (m_has l dC dI ar cy _ hN st9 sl10 z18 (nI k8)  hG.1) (va_cwS 2 hts gX12_oneDay_X12_has rfl rfl rfl (by decide +kernel) ⟨Nat.le_of_ble_eq_true rfl, Nat.le_of_ble_eq_true rfl⟩) ⟨fun a U g mk q => ⟨q.1, mPre.blind q.2⟩, fun U hU hW => ⟨rfl, mPre.of hP hK hU hW⟩⟩ rfl rfl hl.1 rfl (lv_room (Nat.le_of_ble_eq_true rfl)) dX12_oneDay_60 ⟨Nat.le_of_ble_eq_true rfl, Nat.le_of_ble_eq_true rfl⟩) hS (fun q _ h => MA.le hS.1 q h) (MA.le hS.1) (fun r19 x t H locs ht hvm hw hB _ _ hS => ?_)
      have hP := mB.at ht hB
      clear hB ht hvm
      obtain ⟨rfl, hw⟩ := hw
      have hP : va_P (dC, dI) vwCl (mw ar cy st9 sl10) _ := hP
      rcases hw with rfl | rfl
      · refine lv_if_eq (tgt := 87) hx hb dX12_oneDay_63 (by decide) (fun cc => absurd cc (by decide)) (fun _ => ?_)
        refine lv_aload_n hx hb dX12_oneDay_66 rfl (lv_at hl 1 rfl) ?_
        refine va_get (D := (dC, dI)) (ci := 11) (v := .ref (ar 2)) (C := RX12) (T := TX12) (N := 47) hx hb hts ii_X12_oneDay hown hK hP 0 rfl rfl 14 (by decide) (hts _ mm_X12_oneDay_2) (fun _ hh => hh) rfl dX12_oneDay_67 ?_
        refine lv_bipush (v := 95) hx hb dX12_oneDay_70 (by decide) ?_
        refine lv_iload_n hx hb dX12_oneDay_72 rfl (lv_at hl 0 rfl) ?_
        refine lv_iadd hx hb dX12_oneDay_73 ?_
        refine zz_top (v := nI (95 + k8)) (nI_add 95 k8) ?_
        refine lv_aload_n hx hb dX12_oneDay_74 rfl (lv_at hl 1 rfl) ?_
        refine va_get (D := (dC, dI)) (ci := 11) (v := .ref (ar 2)) (C := RX12) (T := TX12) (N := 47) hx hb hts ii_X12_oneDay hown hK hP 0 rfl rfl 14 (by decide) (hts _ mm_X12_oneDay_2) (fun _ hh => hh) rfl dX12_oneDay_75 ?_
        refine lv_bipush (v := 34) hx hb dX12_oneDay_78 (by decide) ?_
        refine lv_iload_n hx hb dX12_oneDay_80 rfl (lv_at hl 0 rfl) ?_
        refine lv_iadd hx hb dX12_oneDay_81 ?_
        refine zz_top (v := nI (34 + k8)) (nI_add 34 k8) ?_
        refine va_iald hx hb hK hP 2 1 rfl rfl (i := (nI (34 + k8))) (vp_in_nI (by omega) (by decide)) dX12_oneDay_82 ?_
        refine lv_topi (fun z20 ez20 => ?_)
        clear ez20
        refine va_iast hx hb hK hP (mD hN _ _ _ _) hS 2 1 rfl rfl (i := (nI (95 + k8))) (vp_in_nI (by omega) (by decide)) dX12_oneDay_83 (fun H locs hP _ hS => ?_)
        rw [nI_clamp (by omega)] at hP
        have hP : va_P (dC, dI) vwCl (mw ar cy (up2 st9 2 (95 + k8) z20) sl10) H := hP
        obtain ⟨st21, hP, hG⟩ : ∃ y, va_P (dC, dI) vwCl (mw ar cy y sl10) H ∧ MG [1, 2, 3, 4, 5, 6, 7, 8, 9, 10, 11, 12, 13, 14, 15, 16, 17, 19, 20, 21, 22, 23] st y := ⟨up2 st9 2 (95 + k8) z20, hP, hG.up (rz (mr_2_95_103 (95 + k8) (by omega) (by omega))) (pn (pcl_2_95_103 (95 + k8) (by omega) (by omega)) (by decide))⟩
        refine lv_goto (tgt := 108) hx hb dX12_oneDay_84 (by decide) ?_
        refine lv_iinc (v := (nI (k8 + 1))) (lv' := [(1, .int (nI (k8 + 1))), (0, .ref (ar 0))]) hx hb dX12_oneDay_108 hl (k := 0) rfl (nI_add k8 1) (by decide) rfl (fun ls hl => ?_)
        refine lv_goto (tgt := 45) hx hb dX12_oneDay_111 (by decide) ?_
        exact ih13 (9 - (k8 + 1)) _ _ _ _ (by omega) ⟨(k8 + 1), st21, sl10, rfl, by omega, by omega, hP, hG, hL, hS, lv_sub hl [0, 1] rfl, rfl⟩
      · refine lv_if_eq (tgt := 87) hx hb dX12_oneDay_63 (by decide) (fun _ => ?_) (fun cc => absurd (by decide) cc)
        refine lv_aload_n hx hb dX12_oneDay_87 rfl (lv_at hl 1 rfl) ?_
        refine lv_iload_n hx hb dX12_oneDay_88 rfl (lv_at hl 0 rfl) ?_
        refine va_calli (va_runV (As := [.int (nI k8)]) (rest := []) ⟨hx, hb, hml, hown, hts⟩ (m_isAway l dC dI ar cy _ hN st9 sl10 k8 (by omega) hG.1) (cwV 1 hts gX12_oneDay_X12_isAway rfl rfl rfl (by decide +kernel) ⟨Nat.le_of_ble_eq_true rfl, Nat.le_of_ble_eq_true rfl⟩) ⟨fun a U g mk q => ⟨q.1, mPre.blind q.2⟩, va_recv hK hP (ci := 11) (q0 := 0) rfl rfl, fun U hU hW => ⟨rfl, mPre.of hP hK hU hW⟩⟩ rfl rfl hl.1 rfl (lv_room (Nat.le_of_ble_eq_true rfl)) dX12_oneDay_89 ⟨Nat.le_of_ble_eq_true rfl, Nat.le_of_ble_eq_true rfl⟩) hS (fun q _ h => MA.le hS.1 q h) (MA.le hS.1) (fun r22 x t H locs ht hvm hw hB _ _ hS => ?_)
        have hP := mB.at ht hB
        clear hB ht hvm
        obtain ⟨rfl, hw⟩ := hw
        have hP : va_P (dC, dI) vwCl (mw ar cy st9 sl10) _ := hP
        rcases hw with rfl | rfl
        · refine lv_if_eq (tgt := 108) hx hb dX12_oneDay_92 (by decide) (fun cc => absurd cc (by decide)) (fun _ => ?_)
          refine lv_aload_n hx hb dX12_oneDay_95 rfl (lv_at hl 1 rfl) ?_
          refine va_get (D := (dC, dI)) (ci := 11) (v := .ref (ar 2)) (C := RX12) (T := TX12) (N := 47) hx hb hts ii_X12_oneDay hown hK hP 0 rfl rfl 14 (by decide) (hts _ mm_X12_oneDay_2) (fun _ hh => hh) rfl dX12_oneDay_96 ?_
          refine lv_bipush (v := 95) hx hb dX12_oneDay_99 (by decide) ?_
          refine lv_iload_n hx hb dX12_oneDay_101 rfl (lv_at hl 0 rfl) ?_
          refine lv_iadd hx hb dX12_oneDay_102 ?_
          refine zz_top (v := nI (95 + k8)) (nI_add 95 k8) ?_
          refine lv_dup2_11 hx hb dX12_oneDay_103 rfl rfl ?_
          refine va_iald hx hb hK hP 2 1 rfl rfl (i := (nI (95 + k8))) (vp_in_nI (by omega) (by decide)) dX12_oneDay_104 ?_
          refine lv_topi (fun z23 ez23 => ?_)
          clear ez23
          refine lv_iconst (v := 1) hx hb dX12_oneDay_105 (by decide) ?_
          refine lv_isub hx hb dX12_oneDay_106 ?_
          refine lv_topi (fun z24 ez24 => ?_)
          clear ez24
          refine va_iast hx hb hK hP (mD hN _ _ _ _) hS 2 1 rfl rfl (i := (nI (95 + k8))) (vp_in_nI (by omega) (by decide)) dX12_oneDay_107 (fun H locs hP _ hS => ?_)
          rw [nI_clamp (by omega)] at hP
          have hP : va_P (dC, dI) vwCl (mw ar cy (up2 st9 2 (95 + k8) z24) sl10) H := hP
          obtain ⟨st25, hP, hG⟩ : ∃ y, va_P (dC, dI) vwCl (mw ar cy y sl10) H ∧ MG [1, 2, 3, 4, 5, 6, 7, 8, 9, 10, 11, 12, 13, 14, 15, 16, 17, 19, 20, 21, 22, 23] st y := ⟨up2 st9 2 (95 + k8) z24, hP, hG.up (rz (mr_2_95_103 (95 + k8) (by omega) (by omega))) (pn (pcl_2_95_103 (95 + k8) (by omega) (by omega)) (by decide))⟩
          refine lv_iinc (v := (nI (k8 + 1))) (lv' := [(1, .int (nI (k8 + 1))), (0, .ref (ar 0))]) hx hb dX12_oneDay_108 hl (k := 0) rfl (nI_add k8 1) (by decide) rfl (fun ls hl => ?_)
          refine lv_goto (tgt := 45) hx hb dX12_oneDay_111 (by decide) ?_
          exact ih13 (9 - (k8 + 1)) _ _ _ _ (by omega) ⟨(k8 + 1), st25, sl10, rfl, by omega, by omega, hP, hG, hL, hS, lv_sub hl [0, 1] rfl, rfl⟩
        · refine lv_if_eq (tgt := 108) hx hb dX12_oneDay_92 (by decide) (fun _ => ?_) (fun cc => absurd (by decide) cc)
          refine lv_iinc (v := (nI (k8 + 1))) (lv' := [(1, .int (nI (k8 + 1))), (0, .ref (ar 0))]) hx hb dX12_oneDay_108 hl (k := 0) rfl (nI_add k8 1) (by decide) rfl (fun ls hl => ?_)
          refine lv_goto (tgt := 45) hx hb dX12_oneDay_111 (by decide) ?_
          exact ih13 (9 - (k8 + 1)) _ _ _ _ (by omega) ⟨(k8 + 1), st9, sl10, rfl, by omega, by omega, hP, hG, hL, hS, lv_sub hl [0, 1] rfl, rfl⟩
  · have c1 : ¬ 24 ≤ k2 := fun hh => c1 ((nI_leI (a := 24) (b := k2) (by omega) (by omega)).mpr hh)
    refine lv_iconst (v := 0) hx hb dX12_oneDay_13 (by decide) ?_
    refine lv_istore_n (lv' := [(2, .int 0), (1, .int (nI k2)), (0, .ref (ar 0))]) hx hb dX12_oneDay_14 rfl hl (by decide) rfl (fun ls hl => ?_)
    refine zz_wf (fun n stk H locs ls => ∃ k26 : Nat, ∃ st27 : Nat → Nat → Int32, ∃ sl28 : Nat → Nat → Int64, n = 7 - k26 ∧ 0 ≤ k26 ∧ k26 < 7 ∧ va_P (dC, dI) vwCl (mw ar cy st27 sl28) H ∧ MG [1, 2, 3, 4, 5, 6, 7, 8, 9, 10, 11, 12, 13, 14, 15, 16, 17, 19, 20, 21, 22, 23] st st27 ∧ LQ [7, 9] sl sl28 ∧ va_S (MA ar s.heap.size) s.heap H locs ∧ lv_has ls 3 [(2, .int (nI k26)), (1, .int (nI k2)), (0, .ref (ar 0))] ∧ stk = []) ?_ (7 - 0) _ _ _ _ ⟨0, st3, sl4, rfl, by omega, by omega, hP, hG, hL, hS, lv_sub hl [0, 1, 2] rfl, rfl⟩
    rintro nn stk H locs ls ⟨k26, st27, sl28, hm30, hv29_0, hv30_1, hP, hG, hL, hS, hl, rfl⟩ ih31
    refine lv_iload_n hx hb dX12_oneDay_15 rfl (lv_at hl 0 rfl) ?_
    refine lv_aload_n hx hb dX12_oneDay_16 rfl (lv_at hl 2 rfl) ?_
    refine va_get (D := (dC, dI)) (ci := 11) (v := .ref (ar 2)) (C := RX12) (T := TX12) (N := 47) hx hb hts ii_X12_oneDay hown hK hP 0 rfl rfl 14 (by decide) (hts _ mm_X12_oneDay_2) (fun _ hh => hh) rfl dX12_oneDay_17 ?_
    refine lv_iconst (v := 2) hx hb dX12_oneDay_20 (by decide) ?_
    refine va_iald hx hb hK hP 2 1 rfl rfl (i := 2) (zz_in (by decide)) dX12_oneDay_21 ?_
    obtain ⟨n32, hn32, en32⟩ := hG.1.at (r := 2) (k := 2) (by decide : mr 2 2 = 7) (by decide)
    refine zz_top (v := nI n32) (by exact en32) ?_
    clear en32
    refine lv_icmp_ge (tgt := 37) hx hb dX12_oneDay_22 (by decide) (fun c7 => ?_) (fun c7 => ?_)
    · have c7 : n32 ≤ k26 := (nI_leI (a := n32) (b := k26) (by omega) (by omega)).mp c7
      refine lv_iinc (v := (nI (k2 + 1))) (lv' := [(1, .int (nI (k2 + 1))), (2, .int (nI k26)), (0, .ref (ar 0))]) hx hb dX12_oneDay_37 hl (k := 1) rfl (nI_add k2 1) (by decide) rfl (fun ls hl => ?_)
      refine lv_goto (tgt := 7) hx hb dX12_oneDay_40 (by decide) ?_
      exact ih7 (25 - (k2 + 1)) _ _ _ _ (by omega) ⟨(k2 + 1), st27, sl28, rfl, by omega, by omega, hP, hG, hL, hS, lv_sub hl [0, 2] rfl, rfl⟩
    · have c7 : ¬ n32 ≤ k26 := fun hh => c7 ((nI_leI (a := n32) (b := k26) (by omega) (by omega)).mpr hh)
      refine lv_aload_n hx hb dX12_oneDay_25 rfl (lv_at hl 2 rfl) ?_
      refine lv_iload_n hx hb dX12_oneDay_26 rfl (lv_at hl 0 rfl) ?_
      refine lv_iload_n hx hb dX12_oneDay_27 rfl (lv_at hl 1 rfl) ?_
      refine va_callv (va_runV (As := [.int (nI k26), .int (nI k2)]) (rest := []) ⟨hx, hb, hml, hown, hts⟩ (m_runs l dC dI ar cy _ hN st27 sl28 k26 (nI k2) (by omega) hG.1) (cwV 2 hts gX12_oneDay_X12_runs rfl rfl rfl (by decide +kernel) ⟨Nat.le_of_ble_eq_true rfl, Nat.le_of_ble_eq_true rfl⟩) ⟨fun a U g mk q => ⟨q.1, mPre.blind q.2⟩, va_recv hK hP (ci := 11) (q0 := 0) rfl rfl, fun U hU hW => ⟨rfl, mPre.of hP hK hU hW⟩⟩ rfl rfl hl.1 rfl (lv_room (Nat.le_of_ble_eq_true rfl)) dX12_oneDay_28 ⟨Nat.le_of_ble_eq_true rfl, Nat.le_of_ble_eq_true rfl⟩) hS (fun q _ h => MA.le hS.1 q h) (MA.le hS.1) (fun x t H locs ht hvm hw hB _ _ hS => ?_)
      have hP := mB.at ht hB
      clear hB ht hvm
      obtain ⟨st34, sl35⟩ := x
      obtain ⟨hG2, hL2, hw⟩ := hw
      have hL : LQ [7, 9] sl sl35 := hL.tr hL2 (by decide)
      clear hL2
      have hP : va_P (dC, dI) vwCl (mw ar cy st34 sl35) _ := hP
      have hG : MG [1, 2, 3, 4, 5, 6, 7, 8, 9, 10, 11, 12, 13, 14, 15, 16, 17, 19, 20, 21, 22, 23] st st34 := hG.tr hG2 (by decide)
      clear hG2
      clear hw
      refine lv_iinc (v := (nI (k26 + 1))) (lv' := [(2, .int (nI (k26 + 1))), (1, .int (nI k2)), (0, .ref (ar 0))]) hx hb dX12_oneDay_31 hl (k := 0) rfl (nI_add k26 1) (by decide) rfl (fun ls hl => ?_)
      refine lv_goto (tgt := 15) hx hb dX12_oneDay_34 (by decide) ?_
      exact ih31 (7 - (k26 + 1)) _ _ _ _ (by omega) ⟨(k26 + 1), st34, sl35, rfl, by omega, by omega, hP, hG, hL, hS, lv_sub hl [0, 1, 2] rfl, rfl⟩
set_option maxHeartbeats 4000000 in
set_option maxRecDepth 100000 in
theorem m_passDays (l : Launch) (dC : Nat → ClassId) (dI : Nat → Nat → Nat) (ar : Nat → Nat) (cy : Nat → ClassId) (sz : Nat) (hN : MN ar) (st : Nat → Nat → Int32) (sl : Nat → Nat → Int64) (va : Int32) (vb : Int32) (hI : MI st) : Met l yX12_passDays wsX12_passDays ({ frames := 6, cells := 0, slots := 0, locals := 135 }) (va_Pc [.ref (ar 0), .int va, .int vb] (mPre dC dI ar cy sz st sl)) (va_Qi (fun (r : Int32) (x : MT) => MG [1, 2, 3, 4, 5, 6, 7, 8, 9, 10, 11, 12, 13, 14, 15, 16, 17, 19, 20, 21, 22, 23] st x.1 ∧ LQ [7, 9] sl x.2 ∧ (True)) (mB dC dI ar cy) (MA ar sz)) 0 0 (MA ar sz) := by
  refine Met.ofW (cc := cX12_passDays) (maxL := 5) (ret := (some .int)) (by decide) rfl ?_
  intro p e s m args below meth c s₁ B hml hv
  obtain ⟨rfl, hsz, hP, hK⟩ := hv
  have hx := B.exec
  have hb := B.bytes
  have hr := B.returns
  have hts := atoms_spec (ws := wsX12_passDays) B.pre
  have hown : s.vm.findClass RX12 = some m.cls := findClass_of_methodNamed B.named
  subst hsz
  have hS : va_S (MA ar s.heap.size) s.heap s.heap [] := va_S.rf
  have hG : MG [1, 2, 3, 4, 5, 6, 7, 8, 9, 10, 11, 12, 13, 14, 15, 16, 17, 19, 20, 21, 22, 23] st st := MG.rf hI
  have hl := lv_entry ([.ref (ar 0), .int va, .int vb]) (n := 5) (Nat.le_of_ble_eq_true rfl)
  rw [lg_entry_eq]
  generalize (lg_sl ([.ref (ar 0), .int va, .int vb]) ++ List.replicate (5 - (lg_sl ([.ref (ar 0), .int va, .int vb])).length) Slot.unset).toArray = ls at hl ⊢
  have hl : lv_has ls 5 [(0, .ref (ar 0)), (1, .int va), (2, .int vb)] := hl
  clear hI
  have hL : LQ [7, 9] sl sl := LQ.rf
  refine lv_aload_n hx hb dX12_passDays_0 rfl (lv_at hl 0 rfl) ?_
  refine lv_iload_n hx hb dX12_passDays_1 rfl (lv_at hl 2 rfl) ?_
  refine va_put (D := (dC, dI)) (ci := 11) (v := .int vb) (ty := .int) (C := RX12) (T := TX12) (N := 47) hx hb hts ii_X12_passDays tyX12 tyX12_ok nmX12 hown hK hP (mD hN _ _ _ _) hS 0 rfl rfl 25 (by decide) (hts _ mm_X12_passDays_1) (fun _ hh => hh) rfl (by decide +kernel) rfl rfl (Nat.le_of_ble_eq_true rfl) dX12_passDays_2 (fun H locs hP _ hS => ?_)
  have hP : va_P (dC, dI) vwCl (mw ar cy (up2 st 0 25 vb) sl) H := hP
  obtain ⟨st1, hP, hG⟩ : ∃ y, va_P (dC, dI) vwCl (mw ar cy y sl) H ∧ MG [1, 2, 3, 4, 5, 6, 7, 8, 9, 10, 11, 12, 13, 14, 15, 16, 17, 19, 20, 21, 22, 23] st y := ⟨up2 st 0 25 vb, hP, hG.up (rz (by decide : mr 0 25 = 0)) (pn (by decide : pcl 0 25 = 0) (by decide))⟩
  refine lv_iload_n hx hb dX12_passDays_5 rfl (lv_at hl 1 rfl) ?_
  refine lv_sipush (v := 400) hx hb dX12_passDays_6 (by decide) ?_
  refine lv_aload_n hx hb dX12_passDays_9 rfl (lv_at hl 0 rfl) ?_
  refine va_get (D := (dC, dI)) (ci := 11) (v := .ref (ar 2)) (C := RX12) (T := TX12) (N := 47) hx hb hts ii_X12_passDays hown hK hP 0 rfl rfl 14 (by decide) (hts _ mm_X12_passDays_2) (fun _ hh => hh) rfl dX12_passDays_10 ?_
  refine lv_bipush (v := 61) hx hb dX12_passDays_13 (by decide) ?_
  refine va_iald hx hb hK hP 2 1 rfl rfl (i := 61) (zz_in (by decide)) dX12_passDays_15 ?_
  refine lv_topi (fun z2 ez2 => ?_)
  clear ez2
  refine lv_isub hx hb dX12_passDays_16 ?_
  refine lv_topi (fun z3 ez3 => ?_)
  clear ez3
  refine va_calli (va_runS (As := [.int va, .int z3]) (rest := []) ⟨hx, hb, hml, hown, hts⟩ (m_least l dC dI ar cy _ hN st1 sl va z3  hG.1) (va_cwS 2 hts gX12_passDays_X12_least rfl rfl rfl (by decide +kernel) ⟨Nat.le_of_ble_eq_true rfl, Nat.le_of_ble_eq_true rfl⟩) ⟨fun a U g mk q => ⟨q.1, mPre.blind q.2⟩, fun U hU hW => ⟨rfl, mPre.of hP hK hU hW⟩⟩ rfl rfl hl.1 rfl (lv_room (Nat.le_of_ble_eq_true rfl)) dX12_passDays_17 ⟨Nat.le_of_ble_eq_true rfl, Nat.le_of_ble_eq_true rfl⟩) hS (fun q _ h => MA.le hS.1 q h) (MA.le hS.1) (fun r4 x t H locs ht hvm hw hB _ _ hS => ?_)
  have hP := mB.at ht hB
  clear hB ht hvm
  obtain ⟨rfl, hw⟩ := hw
  have hP : va_P (dC, dI) vwCl (mw ar cy st1 sl) _ := hP
  clear hw
  refine lv_istore_n (lv' := [(3, .int r4), (0, .ref (ar 0)), (1, .int va), (2, .int vb)]) hx hb dX12_passDays_20 rfl hl (by decide) rfl (fun ls hl => ?_)
  refine lv_iconst (v := 0) hx hb dX12_passDays_21 (by decide) ?_
  refine lv_istore (lv' := [(4, .int 0), (3, .int r4), (0, .ref (ar 0)), (1, .int va), (2, .int vb)]) hx hb dX12_passDays_22 hl (by decide) rfl (fun ls hl => ?_)
  refine zz_wf (fun n stk H locs ls => ∃ k5 : Nat, ∃ st6 : Nat → Nat → Int32, ∃ sl7 : Nat → Nat → Int64, n = (r4.toInt - k5).toNat ∧ 0 ≤ k5 ∧ k5 < 2147483648 ∧ va_P (dC, dI) vwCl (mw ar cy st6 sl7) H ∧ MG [1, 2, 3, 4, 5, 6, 7, 8, 9, 10, 11, 12, 13, 14, 15, 16, 17, 19, 20, 21, 22, 23] st st6 ∧ LQ [7, 9] sl sl7 ∧ va_S (MA ar s.heap.size) s.heap H locs ∧ lv_has ls 5 [(4, .int (nI k5)), (3, .int r4), (0, .ref (ar 0)), (1, .int va), (2, .int vb)] ∧ stk = []) ?_ ((r4.toInt - 0).toNat) _ _ _ _ ⟨0, st1, sl, rfl, by omega, by omega, hP, hG, hL, hS, lv_sub hl [0, 1, 2, 3, 4] rfl, rfl⟩
  rintro nn stk H locs ls ⟨k5, st6, sl7, hm9, hv8_0, hv9_1, hP, hG, hL, hS, hl, rfl⟩ ih10
  refine lv_iload hx hb dX12_passDays_24 (lv_at hl 0 rfl) ?_
  refine lv_iload_n hx hb dX12_passDays_26 rfl (lv_at hl 1 rfl) ?_
  refine lv_icmp_ge (tgt := 40) hx hb dX12_passDays_27 (by decide) (fun c1 => ?_) (fun c1 => ?_)
  · refine lv_iload_n hx hb dX12_passDays_40 rfl (lv_at hl 1 rfl) ?_
    exact W.iret (v := r4) hx hb hr (fun t ht hW => ⟨⟨r4, (st6, sl7), rfl, ⟨hG, hL, trivial⟩, mB.of ht hP⟩, hS.F ht⟩) hS.2.2 dX12_passDays_41
  · have hqc1 := zz_ltany c1 (by omega)
    refine lv_aload_n hx hb dX12_passDays_30 rfl (lv_at hl 2 rfl) ?_
    refine va_callv (va_runV (As := []) (rest := []) ⟨hx, hb, hml, hown, hts⟩ (m_oneDay l dC dI ar cy _ hN st6 sl7  hG.1) (cwV 0 hts gX12_passDays_X12_oneDay rfl rfl rfl (by decide +kernel) ⟨Nat.le_of_ble_eq_true rfl, Nat.le_of_ble_eq_true rfl⟩) ⟨fun a U g mk q => ⟨q.1, mPre.blind q.2⟩, va_recv hK hP (ci := 11) (q0 := 0) rfl rfl, fun U hU hW => ⟨rfl, mPre.of hP hK hU hW⟩⟩ rfl rfl hl.1 rfl (lv_room (Nat.le_of_ble_eq_true rfl)) dX12_passDays_31 ⟨Nat.le_of_ble_eq_true rfl, Nat.le_of_ble_eq_true rfl⟩) hS (fun q _ h => MA.le hS.1 q h) (MA.le hS.1) (fun x t H locs ht hvm hw hB _ _ hS => ?_)
    have hP := mB.at ht hB
    clear hB ht hvm
    obtain ⟨st12, sl13⟩ := x
    obtain ⟨hG2, hL2, hw⟩ := hw
    have hL : LQ [7, 9] sl sl13 := hL.tr hL2 (by decide)
    clear hL2
    have hP : va_P (dC, dI) vwCl (mw ar cy st12 sl13) _ := hP
    have hG : MG [1, 2, 3, 4, 5, 6, 7, 8, 9, 10, 11, 12, 13, 14, 15, 16, 17, 19, 20, 21, 22, 23] st st12 := hG.tr hG2 (by decide)
    clear hG2
    clear hw
    refine lv_iinc (v := (nI (k5 + 1))) (lv' := [(4, .int (nI (k5 + 1))), (3, .int r4), (0, .ref (ar 0)), (1, .int va), (2, .int vb)]) hx hb dX12_passDays_34 hl (k := 0) rfl (nI_add k5 1) (by decide) rfl (fun ls hl => ?_)
    refine lv_goto (tgt := 24) hx hb dX12_passDays_37 (by decide) ?_
    exact ih10 ((r4.toInt - (k5 + 1)).toNat) _ _ _ _ (by omega) ⟨(k5 + 1), st12, sl13, rfl, by omega, by omega, hP, hG, hL, hS, lv_sub hl [0, 1, 2, 3, 4] rfl, rfl⟩
set_option maxHeartbeats 4000000 in
set_option maxRecDepth 100000 in
theorem m_days (l : Launch) (dC : Nat → ClassId) (dI : Nat → Nat → Nat) (ar : Nat → Nat) (cy : Nat → ClassId) (sz : Nat) (hN : MN ar) (st : Nat → Nat → Int32) (sl : Nat → Nat → Int64) (va : Int32) (vb : Int32) (hI : MI st) : Met l yX12_days wsX12_days ({ frames := 7, cells := 0, slots := 0, locals := 159 }) (va_Pc [.ref (ar 0), .int va, .int vb] (mPre dC dI ar cy sz st sl)) (va_Qi (fun (r : Int32) (x : MT) => MG [1, 2, 3, 4, 5, 6, 7, 8, 9, 10, 11, 12, 13, 14, 15, 16, 17, 19, 20, 21, 22, 23] st x.1 ∧ LQ [7, 9] sl x.2 ∧ (True)) (mB dC dI ar cy) (MA ar sz)) 0 0 (MA ar sz) := by
  refine Met.ofW (cc := cX12_days) (maxL := 3) (ret := (some .int)) (by decide) rfl ?_
  intro p e s m args below meth c s₁ B hml hv
  obtain ⟨rfl, hsz, hP, hK⟩ := hv
  have hx := B.exec
  have hb := B.bytes
  have hr := B.returns
  have hts := atoms_spec (ws := wsX12_days) B.pre
  have hown : s.vm.findClass RX12 = some m.cls := findClass_of_methodNamed B.named
  subst hsz
  have hS : va_S (MA ar s.heap.size) s.heap s.heap [] := va_S.rf
  have hG : MG [1, 2, 3, 4, 5, 6, 7, 8, 9, 10, 11, 12, 13, 14, 15, 16, 17, 19, 20, 21, 22, 23] st st := MG.rf hI
  have hl := lv_entry ([.ref (ar 0), .int va, .int vb]) (n := 3) (Nat.le_of_ble_eq_true rfl)
  rw [lg_entry_eq]
  generalize (lg_sl ([.ref (ar 0), .int va, .int vb]) ++ List.replicate (3 - (lg_sl ([.ref (ar 0), .int va, .int vb])).length) Slot.unset).toArray = ls at hl ⊢
  have hl : lv_has ls 3 [(0, .ref (ar 0)), (1, .int va), (2, .int vb)] := hl
  clear hI
  have hL : LQ [7, 9] sl sl := LQ.rf
  refine lv_aload_n hx hb dX12_days_0 rfl (lv_at hl 0 rfl) ?_
  refine lv_iconst (v := 0) hx hb dX12_days_1 (by decide) ?_
  refine va_put (D := (dC, dI)) (ci := 11) (v := .int 0) (ty := .int) (C := RX12) (T := TX12) (N := 47) hx hb hts ii_X12_days tyX12 tyX12_ok nmX12 hown hK hP (mD hN _ _ _ _) hS 0 rfl rfl 0 (by decide) (hts _ mm_X12_days_1) (fun _ hh => hh) rfl (by decide +kernel) rfl rfl (Nat.le_of_ble_eq_true rfl) dX12_days_2 (fun H locs hP _ hS => ?_)
  have hP : va_P (dC, dI) vwCl (mw ar cy (up2 st 0 0 0) sl) H := hP
  obtain ⟨st1, hP, hG⟩ : ∃ y, va_P (dC, dI) vwCl (mw ar cy y sl) H ∧ MG [1, 2, 3, 4, 5, 6, 7, 8, 9, 10, 11, 12, 13, 14, 15, 16, 17, 19, 20, 21, 22, 23] st y := ⟨up2 st 0 0 0, hP, hG.up (rz (by decide : mr 0 0 = 0)) (pn (by decide : pcl 0 0 = 0) (by decide))⟩
  refine lv_iload_n hx hb dX12_days_5 rfl (lv_at hl 1 rfl) ?_
  refine lv_iconst (v := 1) hx hb dX12_days_6 (by decide) ?_
  refine lv_bipush (v := 30) hx hb dX12_days_7 (by decide) ?_
  refine va_calli (va_runS (As := [.int va, .int 1, .int 30]) (rest := []) ⟨hx, hb, hml, hown, hts⟩ (m_isIn l dC dI ar cy _ hN st1 sl va 1 30  hG.1) (va_cwS 3 hts gX12_days_X12_isIn rfl rfl rfl (by decide +kernel) ⟨Nat.le_of_ble_eq_true rfl, Nat.le_of_ble_eq_true rfl⟩) ⟨fun a U g mk q => ⟨q.1, mPre.blind q.2⟩, fun U hU hW => ⟨rfl, mPre.of hP hK hU hW⟩⟩ rfl rfl hl.1 rfl (lv_room (Nat.le_of_ble_eq_true rfl)) dX12_days_9 ⟨Nat.le_of_ble_eq_true rfl, Nat.le_of_ble_eq_true rfl⟩) hS (fun q _ h => MA.le hS.1 q h) (MA.le hS.1) (fun r2 x t H locs ht hvm hw hB _ _ hS => ?_)
  have hP := mB.at ht hB
  clear hB ht hvm
  obtain ⟨rfl, hw⟩ := hw
  have hP : va_P (dC, dI) vwCl (mw ar cy st1 sl) _ := hP
  rcases hw with ⟨rfl, hf3, hf4⟩ | rfl
  · obtain ⟨n5, hn5a, hn5b, rfl⟩ := zz_rng (a := 1) (b := 30) (by omega) hf3 (by omega) hf4
    refine lv_if_ne (tgt := 17) hx hb dX12_days_12 (by decide) (fun _ => ?_) (fun cc => absurd cc (by decide))
    refine lv_aload_n hx hb dX12_days_17 rfl (lv_at hl 0 rfl) ?_
    refine va_get (D := (dC, dI)) (ci := 11) (v := .ref (ar 2)) (C := RX12) (T := TX12) (N := 47) hx hb hts ii_X12_days hown hK hP 0 rfl rfl 14 (by decide) (hts _ mm_X12_days_2) (fun _ hh => hh) rfl dX12_days_18 ?_
    refine lv_bipush (v := 61) hx hb dX12_days_21 (by decide) ?_
    refine va_iald hx hb hK hP 2 1 rfl rfl (i := 61) (zz_in (by decide)) dX12_days_23 ?_
    refine lv_topi (fun z6 ez6 => ?_)
    clear ez6
    refine lv_sipush (v := 400) hx hb dX12_days_24 (by decide) ?_
    refine lv_icmp_ne (tgt := 32) hx hb dX12_days_27 (by decide) (fun c2 => ?_) (fun c2 => ?_)
    · refine lv_aload_n hx hb dX12_days_32 rfl (lv_at hl 0 rfl) ?_
      refine va_callv (va_runV (As := []) (rest := []) ⟨hx, hb, hml, hown, hts⟩ (m_snap l dC dI ar cy _ hN st1 sl  hG.1) (cwV 0 hts gX12_days_X12_snap rfl rfl rfl (by decide +kernel) ⟨Nat.le_of_ble_eq_true rfl, Nat.le_of_ble_eq_true rfl⟩) ⟨fun a U g mk q => ⟨q.1, mPre.blind q.2⟩, va_recv hK hP (ci := 11) (q0 := 0) rfl rfl, fun U hU hW => ⟨rfl, mPre.of hP hK hU hW⟩⟩ rfl rfl hl.1 rfl (lv_room (Nat.le_of_ble_eq_true rfl)) dX12_days_33 ⟨Nat.le_of_ble_eq_true rfl, Nat.le_of_ble_eq_true rfl⟩) hS (fun q _ h => MA.le hS.1 q h) (MA.le hS.1) (fun x t H locs ht hvm hw hB _ _ hS => ?_)
      have hP := mB.at ht hB
      clear hB ht hvm
      obtain ⟨st8, sl9⟩ := x
      obtain ⟨hG2, hL2, hw⟩ := hw
      have hL : LQ [7, 9] sl sl9 := hL.tr hL2 (by decide)
      clear hL2
      have hP : va_P (dC, dI) vwCl (mw ar cy st8 sl9) _ := hP
      have hG : MG [1, 2, 3, 4, 5, 6, 7, 8, 9, 10, 11, 12, 13, 14, 15, 16, 17, 19, 20, 21, 22, 23] st st8 := hG.tr hG2 (by decide)
      clear hG2
      clear hw
      refine lv_aload_n hx hb dX12_days_36 rfl (lv_at hl 0 rfl) ?_
      refine lv_iload_n hx hb dX12_days_37 rfl (lv_at hl 1 rfl) ?_
      refine lv_iload_n hx hb dX12_days_38 rfl (lv_at hl 2 rfl) ?_
      refine va_calli (va_runV (As := [.int (nI n5), .int vb]) (rest := []) ⟨hx, hb, hml, hown, hts⟩ (m_passDays l dC dI ar cy _ hN st8 sl9 (nI n5) vb  hG.1) (cwV 2 hts gX12_days_X12_passDays rfl rfl rfl (by decide +kernel) ⟨Nat.le_of_ble_eq_true rfl, Nat.le_of_ble_eq_true rfl⟩) ⟨fun a U g mk q => ⟨q.1, mPre.blind q.2⟩, va_recv hK hP (ci := 11) (q0 := 0) rfl rfl, fun U hU hW => ⟨rfl, mPre.of hP hK hU hW⟩⟩ rfl rfl hl.1 rfl (lv_room (Nat.le_of_ble_eq_true rfl)) dX12_days_39 ⟨Nat.le_of_ble_eq_true rfl, Nat.le_of_ble_eq_true rfl⟩) hS (fun q _ h => MA.le hS.1 q h) (MA.le hS.1) (fun r10 x t H locs ht hvm hw hB _ _ hS => ?_)
      have hP := mB.at ht hB
      clear hB ht hvm
      obtain ⟨st11, sl12⟩ := x
      obtain ⟨hG2, hL2, hw⟩ := hw
      have hL : LQ [7, 9] sl sl12 := hL.tr hL2 (by decide)
      clear hL2
      have hP : va_P (dC, dI) vwCl (mw ar cy st11 sl12) _ := hP
      have hG : MG [1, 2, 3, 4, 5, 6, 7, 8, 9, 10, 11, 12, 13, 14, 15, 16, 17, 19, 20, 21, 22, 23] st st11 := hG.tr hG2 (by decide)
      clear hG2
      clear hw
      exact W.iret (v := r10) hx hb hr (fun t ht hW => ⟨⟨r10, (st11, sl12), rfl, ⟨hG, hL, trivial⟩, mB.of ht hP⟩, hS.F ht⟩) hS.2.2 dX12_days_42
    · refine lv_iconst (v := 0) hx hb dX12_days_30 (by decide) ?_
      exact W.iret (v := 0) hx hb hr (fun t ht hW => ⟨⟨0, (st1, sl), rfl, ⟨hG, hL, trivial⟩, mB.of ht hP⟩, hS.F ht⟩) hS.2.2 dX12_days_31
  · refine lv_if_ne (tgt := 17) hx hb dX12_days_12 (by decide) (fun cc => absurd (by decide) cc) (fun _ => ?_)
    refine lv_iconst (v := (-1)) hx hb dX12_days_15 (by decide) ?_
    exact W.iret (v := (-1)) hx hb hr (fun t ht hW => ⟨⟨(-1), (st1, sl), rfl, ⟨hG, hL, trivial⟩, mB.of ht hP⟩, hS.F ht⟩) hS.2.2 dX12_days_16
