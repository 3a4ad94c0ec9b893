set_option maxHeartbeats 4000000 in
set_option maxRecDepth 100000 in
theorem m_best (l : Launch) (dC : Nat → ClassId) (dI : Nat → Nat → Nat) (ar : Nat → Nat) (cy : Nat → ClassId) (sz : Nat) (hN : MN ar) (st : Nat → Nat → Int32) (sl : Nat → Nat → Int64) (va : Int32) (vb : Int32) (hI : MI st) : Met l yX12_best wsX12_best ({ frames := 5, cells := 0, slots := 0, locals := 111 }) (va_Pc [.ref (ar 0), .int va, .int vb] (mPre dC dI ar cy sz st sl)) (va_Qi (fun (r : Int32) (x : MT) => MG [1, 2, 3, 4, 5, 6, 7, 8, 9, 10, 11, 12, 13, 14, 15, 16, 17, 19, 20, 21, 22, 23] st x.1 ∧ LQ [7, 9] sl x.2 ∧ (True)) (mB dC dI ar cy) (MA ar sz)) 0 0 (MA ar sz) := by
  refine Met.ofW (cc := cX12_best) (maxL := 8) (ret := (some .int)) (by decide) rfl ?_
  intro p e s m args below meth c s₁ B hml hv
  obtain ⟨rfl, hsz, hP, hK⟩ := hv
  have hx := B.exec
  have hb := B.bytes
  have hr := B.returns
  have hts := atoms_spec (ws := wsX12_best) B.pre
  have hown : s.vm.findClass RX12 = some m.cls := findClass_of_methodNamed B.named
  subst hsz
  have hS : va_S (MA ar s.heap.size) s.heap s.heap [] := va_S.rf
  have hG : MG [1, 2, 3, 4, 5, 6, 7, 8, 9, 10, 11, 12, 13, 14, 15, 16, 17, 19, 20, 21, 22, 23] st st := MG.rf hI
  have hl := lv_entry ([.ref (ar 0), .int va, .int vb]) (n := 8) (Nat.le_of_ble_eq_true rfl)
  rw [lg_entry_eq]
  generalize (lg_sl ([.ref (ar 0), .int va, .int vb]) ++ List.replicate (8 - (lg_sl ([.ref (ar 0), .int va, .int vb])).length) Slot.unset).toArray = ls at hl ⊢
  have hl : lv_has ls 8 [(0, .ref (ar 0)), (1, .int va), (2, .int vb)] := hl
  clear hI
  have hL : LQ [7, 9] sl sl := LQ.rf
  refine lv_aload_n hx hb dX12_best_0 rfl (lv_at hl 0 rfl) ?_
  refine lv_iconst (v := 0) hx hb dX12_best_1 (by decide) ?_
  refine va_put (D := (dC, dI)) (ci := 11) (v := .int 0) (ty := .int) (C := RX12) (T := TX12) (N := 47) hx hb hts ii_X12_best tyX12 tyX12_ok nmX12 hown hK hP (mD hN _ _ _ _) hS 0 rfl rfl 0 (by decide) (hts _ mm_X12_best_1) (fun _ hh => hh) rfl (by decide +kernel) rfl rfl (Nat.le_of_ble_eq_true rfl) dX12_best_2 (fun H locs hP _ hS => ?_)
  have hP : va_P (dC, dI) vwCl (mw ar cy (up2 st 0 0 0) sl) H := hP
  obtain ⟨st1, hP, hG⟩ : ∃ y, va_P (dC, dI) vwCl (mw ar cy y sl) H ∧ MG [1, 2, 3, 4, 5, 6, 7, 8, 9, 10, 11, 12, 13, 14, 15, 16, 17, 19, 20, 21, 22, 23] st y := ⟨up2 st 0 0 0, hP, hG.up (rz (by decide : mr 0 0 = 0)) (pn (by decide : pcl 0 0 = 0) (by decide))⟩
  refine lv_aload_n hx hb dX12_best_5 rfl (lv_at hl 0 rfl) ?_
  refine lv_iload_n hx hb dX12_best_6 rfl (lv_at hl 1 rfl) ?_
  refine va_calli (va_runV (As := [.int va]) (rest := []) ⟨hx, hb, hml, hown, hts⟩ (m_isPlace l dC dI ar cy _ hN st1 sl va  hG.1) (cwV 1 hts gX12_best_X12_isPlace rfl rfl rfl (by decide +kernel) ⟨Nat.le_of_ble_eq_true rfl, Nat.le_of_ble_eq_true rfl⟩) ⟨fun a U g mk q => ⟨q.1, mPre.blind q.2⟩, va_recv hK hP (ci := 11) (q0 := 0) rfl rfl, fun U hU hW => ⟨rfl, mPre.of hP hK hU hW⟩⟩ rfl rfl hl.1 rfl (lv_room (Nat.le_of_ble_eq_true rfl)) dX12_best_7 ⟨Nat.le_of_ble_eq_true rfl, Nat.le_of_ble_eq_true rfl⟩) hS (fun q _ h => MA.le hS.1 q h) (MA.le hS.1) (fun r2 x t H locs ht hvm hw hB _ _ hS => ?_)
  have hP := mB.at ht hB
  clear hB ht hvm
  obtain ⟨rfl, hw⟩ := hw
  have hP : va_P (dC, dI) vwCl (mw ar cy st1 sl) _ := hP
  rcases hw with ⟨n3, rfl, hf4, rfl⟩ | rfl
  · refine lv_if_eq (tgt := 22) hx hb dX12_best_10 (by decide) (fun cc => absurd cc (by decide)) (fun _ => ?_)
    refine lv_iload_n hx hb dX12_best_13 rfl (lv_at hl 2 rfl) ?_
    refine lv_iconst (v := 0) hx hb dX12_best_14 (by decide) ?_
    refine lv_iconst (v := 1) hx hb dX12_best_15 (by decide) ?_
    refine va_calli (va_runS (As := [.int vb, .int 0, .int 1]) (rest := []) ⟨hx, hb, hml, hown, hts⟩ (m_isIn l dC dI ar cy _ hN st1 sl vb 0 1  hG.1) (va_cwS 3 hts gX12_best_X12_isIn rfl rfl rfl (by decide +kernel) ⟨Nat.le_of_ble_eq_true rfl, Nat.le_of_ble_eq_true rfl⟩) ⟨fun a U g mk q => ⟨q.1, mPre.blind q.2⟩, fun U hU hW => ⟨rfl, mPre.of hP hK hU hW⟩⟩ rfl rfl hl.1 rfl (lv_room (Nat.le_of_ble_eq_true rfl)) dX12_best_16 ⟨Nat.le_of_ble_eq_true rfl, Nat.le_of_ble_eq_true rfl⟩) hS (fun q _ h => MA.le hS.1 q h) (MA.le hS.1) (fun r5 x t H locs ht hvm hw hB _ _ hS => ?_)
    have hP := mB.at ht hB
    clear hB ht hvm
    obtain ⟨rfl, hw⟩ := hw
    have hP : va_P (dC, dI) vwCl (mw ar cy st1 sl) _ := hP
    rcases hw with ⟨rfl, hf6, hf7⟩ | rfl
    · obtain ⟨n8, hn8a, hn8b, rfl⟩ := zz_rng (a := 0) (b := 1) (by omega) hf6 (by omega) hf7
      refine lv_if_ne (tgt := 24) hx hb dX12_best_19 (by decide) (fun _ => ?_) (fun cc => absurd cc (by decide))
      refine lv_aload_n hx hb dX12_best_24 rfl (lv_at hl 0 rfl) ?_
      refine va_get (D := (dC, dI)) (ci := 11) (v := .ref (ar 2)) (C := RX12) (T := TX12) (N := 47) hx hb hts ii_X12_best hown hK hP 0 rfl rfl 14 (by decide) (hts _ mm_X12_best_2) (fun _ hh => hh) rfl dX12_best_25 ?_
      refine lv_bipush (v := 66) hx hb dX12_best_28 (by decide) ?_
      refine lv_iload_n hx hb dX12_best_30 rfl (lv_at hl 1 rfl) ?_
      refine lv_iadd hx hb dX12_best_31 ?_
      refine zz_top (v := nI (66 + n3)) (nI_add 66 n3) ?_
      refine va_iald hx hb hK hP 2 1 rfl rfl (i := (nI (66 + n3))) (vp_in_nI (by omega) (by decide)) dX12_best_32 ?_
      obtain ⟨n9, hn9, en9⟩ := hG.1.at (r := 2) (k := (66 + n3)) (mr_2_66_71 (66 + n3) (by omega) (by omega)) (by decide)
      refine zz_top (v := nI n9) (by rw [nI_clamp (by omega)]; exact en9) ?_
      clear en9
      refine lv_istore_n (lv' := [(3, .int (nI n9)), (0, .ref (ar 0)), (1, .int (nI n3)), (2, .int (nI n8))]) hx hb dX12_best_33 rfl hl (by decide) rfl (fun ls hl => ?_)
      refine lv_aload_n hx hb dX12_best_34 rfl (lv_at hl 1 rfl) ?_
      refine va_get (D := (dC, dI)) (ci := 11) (v := .ref (ar 2)) (C := RX12) (T := TX12) (N := 47) hx hb hts ii_X12_best hown hK hP 0 rfl rfl 14 (by decide) (hts _ mm_X12_best_2) (fun _ hh => hh) rfl dX12_best_35 ?_
      refine lv_bipush (v := 66) hx hb dX12_best_38 (by decide) ?_
      refine lv_iload_n hx hb dX12_best_40 rfl (lv_at hl 2 rfl) ?_
      refine lv_iadd hx hb dX12_best_41 ?_
      refine zz_top (v := nI (66 + n3)) (nI_add 66 n3) ?_
      refine lv_iconst (v := 0) hx hb dX12_best_42 (by decide) ?_
      refine va_iast hx hb hK hP (mD hN _ _ _ _) hS 2 1 rfl rfl (i := (nI (66 + n3))) (vp_in_nI (by omega) (by decide)) dX12_best_43 (fun H locs hP _ hS => ?_)
      rw [nI_clamp (by omega)] at hP
      have hP : va_P (dC, dI) vwCl (mw ar cy (up2 st1 2 (66 + n3) 0) sl) H := hP
      obtain ⟨st10, hP, hG⟩ : ∃ y, va_P (dC, dI) vwCl (mw ar cy y sl) H ∧ MG [1, 2, 3, 4, 5, 6, 7, 8, 9, 10, 11, 12, 13, 14, 15, 16, 17, 19, 20, 21, 22, 23] st y := ⟨up2 st1 2 (66 + n3) 0, hP, hG.up (r0) (pn (pcl_2_66_71 (66 + n3) (by omega) (by omega)) (by decide))⟩
      refine lv_aload_n hx hb dX12_best_44 rfl (lv_at hl 1 rfl) ?_
      refine lv_iload_n hx hb dX12_best_45 rfl (lv_at hl 3 rfl) ?_
      refine lv_iconst (v := 1) hx hb dX12_best_46 (by decide) ?_
      refine lv_icmp_ne (tgt := 54) hx hb dX12_best_47 (by decide) (fun c3 => ?_) (fun c3 => ?_)
      · have c3 : ¬ n8 = 1 := fun hh => c3 ((nI_eq (a := n8) (b := 1) (by omega) (by omega)).mpr hh)
        refine lv_iconst (v := 0) hx hb dX12_best_54 (by decide) ?_
        refine va_calli (va_runV (As := [.int 0]) (rest := []) ⟨hx, hb, hml, hown, hts⟩ (m_goodAll l dC dI ar cy _ hN st10 sl 0  hG.1) (cwV 1 hts gX12_best_X12_goodAll rfl rfl rfl (by decide +kernel) ⟨Nat.le_of_ble_eq_true rfl, Nat.le_of_ble_eq_true rfl⟩) ⟨fun a U g mk q => ⟨q.1, mPre.blind q.2⟩, va_recv hK hP (ci := 11) (q0 := 0) rfl rfl, fun U hU hW => ⟨rfl, mPre.of hP hK hU hW⟩⟩ rfl rfl hl.1 rfl (lv_room (Nat.le_of_ble_eq_true rfl)) dX12_best_55 ⟨Nat.le_of_ble_eq_true rfl, Nat.le_of_ble_eq_true rfl⟩) hS (fun q _ h => MA.le hS.1 q h) (MA.le hS.1) (fun r11 x t H locs ht hvm hw hB _ _ hS => ?_)
        have hP := mB.at ht hB
        clear hB ht hvm
        obtain ⟨rfl, hw⟩ := hw
        have hP : va_P (dC, dI) vwCl (mw ar cy st10 sl) _ := hP
        clear hw
        refine lv_istore (lv' := [(4, .int r11), (3, .int (nI n9)), (0, .ref (ar 0)), (1, .int (nI n3)), (2, .int (nI n8))]) hx hb dX12_best_58 hl (by decide) rfl (fun ls hl => ?_)
        refine lv_aload_n hx hb dX12_best_60 rfl (lv_at hl 2 rfl) ?_
        refine lv_iconst (v := (-1)) hx hb dX12_best_61 (by decide) ?_
        refine va_put (D := (dC, dI)) (ci := 11) (v := .int (-1)) (ty := .int) (C := RX12) (T := TX12) (N := 47) hx hb hts ii_X12_best tyX12 tyX12_ok nmX12 hown hK hP (mD hN _ _ _ _) hS 0 rfl rfl 27 (by decide) (hts _ mm_X12_best_3) (fun _ hh => hh) rfl (by decide +kernel) rfl rfl (Nat.le_of_ble_eq_true rfl) dX12_best_62 (fun H locs hP _ hS => ?_)
        have hP : va_P (dC, dI) vwCl (mw ar cy (up2 st10 0 27 (-1)) sl) H := hP
        obtain ⟨st12, hP, hG⟩ : ∃ y, va_P (dC, dI) vwCl (mw ar cy y sl) H ∧ MG [1, 2, 3, 4, 5, 6, 7, 8, 9, 10, 11, 12, 13, 14, 15, 16, 17, 19, 20, 21, 22, 23] st y := ⟨up2 st10 0 27 (-1), hP, hG.up (rz (by decide : mr 0 27 = 0)) (pn (by decide : pcl 0 27 = 0) (by decide))⟩
        refine lv_aload_n hx hb dX12_best_65 rfl (lv_at hl 2 rfl) ?_
        refine lv_iconst (v := (-1)) hx hb dX12_best_66 (by decide) ?_
        refine va_put (D := (dC, dI)) (ci := 11) (v := .int (-1)) (ty := .int) (C := RX12) (T := TX12) (N := 47) hx hb hts ii_X12_best tyX12 tyX12_ok nmX12 hown hK hP (mD hN _ _ _ _) hS 0 rfl rfl 28 (by decide) (hts _ mm_X12_best_4) (fun _ hh => hh) rfl (by decide +kernel) rfl rfl (Nat.le_of_ble_eq_true rfl) dX12_best_67 (fun H locs hP _ hS => ?_)
        have hP : va_P (dC, dI) vwCl (mw ar cy (up2 st12 0 28 (-1)) sl) H := hP
        obtain ⟨st13, hP, hG⟩ : ∃ y, va_P (dC, dI) vwCl (mw ar cy y sl) H ∧ MG [1, 2, 3, 4, 5, 6, 7, 8, 9, 10, 11, 12, 13, 14, 15, 16, 17, 19, 20, 21, 22, 23] st y := ⟨up2 st12 0 28 (-1), hP, hG.up (rz (by decide : mr 0 28 = 0)) (pn (by decide : pcl 0 28 = 0) (by decide))⟩
        refine lv_iconst (v := 0) hx hb dX12_best_70 (by decide) ?_
        refine lv_istore (lv' := [(5, .int 0), (4, .int r11), (3, .int (nI n9)), (0, .ref (ar 0)), (1, .int (nI n3)), (2, .int (nI n8))]) hx hb dX12_best_71 hl (by decide) rfl (fun ls hl => ?_)
        refine zz_wf (fun n stk H locs ls => ∃ k14 : Nat, ∃ z15 : Int32, ∃ st16 : Nat → Nat → Int32, ∃ sl17 : Nat → Nat → Int64, n = 25 - k14 ∧ 0 ≤ k14 ∧ k14 < 25 ∧ va_P (dC, dI) vwCl (mw ar cy st16 sl17) H ∧ MG [1, 2, 3, 4, 5, 6, 7, 8, 9, 10, 11, 12, 13, 14, 15, 16, 17, 19, 20, 21, 22, 23] st st16 ∧ LQ [7, 9] sl sl17 ∧ va_S (MA ar s.heap.size) s.heap H locs ∧ lv_has ls 8 [(5, .int (nI k14)), (4, .int z15), (3, .int (nI n9)), (0, .ref (ar 0)), (1, .int (nI n3)), (2, .int (nI n8))] ∧ stk = []) ?_ (25 - 0) _ _ _ _ ⟨0, r11, st13, sl, rfl, by omega, by omega, hP, hG, hL, hS, lv_sub hl [0, 1, 2, 3, 4, 5] rfl, rfl⟩
        rintro nn stk H locs ls ⟨k14, z15, st16, sl17, hm19, hv18_0, hv19_1, hP, hG, hL, hS, hl, rfl⟩ ih20
        refine lv_iload hx hb dX12_best_73 (lv_at hl 0 rfl) ?_
        refine lv_bipush (v := 24) hx hb dX12_best_75 (by decide) ?_
        refine lv_icmp_ge (tgt := 161) hx hb dX12_best_77 (by decide) (fun c4 => ?_) (fun c4 => ?_)
        · have c4 : 24 ≤ k14 := (nI_leI (a := 24) (b := k14) (by omega) (by omega)).mp c4
          refine lv_aload_n hx hb dX12_best_161 rfl (lv_at hl 3 rfl) ?_
          refine va_get (D := (dC, dI)) (ci := 11) (v := .ref (ar 2)) (C := RX12) (T := TX12) (N := 47) hx hb hts ii_X12_best hown hK hP 0 rfl rfl 14 (by decide) (hts _ mm_X12_best_2) (fun _ hh => hh) rfl dX12_best_162 ?_
          refine lv_bipush (v := 66) hx hb dX12_best_165 (by decide) ?_
          refine lv_iload_n hx hb dX12_best_167 rfl (lv_at hl 4 rfl) ?_
          refine lv_iadd hx hb dX12_best_168 ?_
          refine zz_top (v := nI (66 + n3)) (nI_add 66 n3) ?_
          refine lv_iload_n hx hb dX12_best_169 rfl (lv_at hl 2 rfl) ?_
          refine va_iast hx hb hK hP (mD hN _ _ _ _) hS 2 1 rfl rfl (i := (nI (66 + n3))) (vp_in_nI (by omega) (by decide)) dX12_best_170 (fun H locs hP _ hS => ?_)
          rw [nI_clamp (by omega)] at hP
          have hP : va_P (dC, dI) vwCl (mw ar cy (up2 st16 2 (66 + n3) (nI n9)) sl17) H := hP
          obtain ⟨st21, hP, hG⟩ : ∃ y, va_P (dC, dI) vwCl (mw ar cy y sl17) H ∧ MG [1, 2, 3, 4, 5, 6, 7, 8, 9, 10, 11, 12, 13, 14, 15, 16, 17, 19, 20, 21, 22, 23] st y := ⟨up2 st16 2 (66 + n3) (nI n9), hP, hG.up (rn (n := n9) (mr_2_66_71 (66 + n3) (by omega) (by omega)) (by omega)) (pn (pcl_2_66_71 (66 + n3) (by omega) (by omega)) (by decide))⟩
          refine lv_iload hx hb dX12_best_171 (lv_at hl 1 rfl) ?_
          exact W.iret (v := z15) hx hb hr (fun t ht hW => ⟨⟨z15, (st21, sl17), rfl, ⟨hG, hL, trivial⟩, mB.of ht hP⟩, hS.F ht⟩) hS.2.2 dX12_best_173
        · have c4 : ¬ 24 ≤ k14 := fun hh => c4 ((nI_leI (a := 24) (b := k14) (by omega) (by omega)).mpr hh)
          refine lv_iload hx hb dX12_best_80 (lv_at hl 0 rfl) ?_
          refine lv_istore (lv' := [(6, .int (nI k14)), (5, .int (nI k14)), (4, .int z15), (3, .int (nI n9)), (0, .ref (ar 0)), (1, .int (nI n3)), (2, .int (nI n8))]) hx hb dX12_best_82 hl (by decide) rfl (fun ls hl => ?_)
          refine zz_wf (fun n stk H locs ls => ∃ k22 : Nat, ∃ z23 : Int32, ∃ st24 : Nat → Nat → Int32, ∃ sl25 : Nat → Nat → Int64, n = 25 - k22 ∧ 0 ≤ k22 ∧ k22 < 25 ∧ k14 ≤ k22 ∧ va_P (dC, dI) vwCl (mw ar cy st24 sl25) H ∧ MG [1, 2, 3, 4, 5, 6, 7, 8, 9, 10, 11, 12, 13, 14, 15, 16, 17, 19, 20, 21, 22, 23] st st24 ∧ LQ [7, 9] sl sl25 ∧ va_S (MA ar s.heap.size) s.heap H locs ∧ lv_has ls 8 [(6, .int (nI k22)), (5, .int (nI k14)), (4, .int z23), (3, .int (nI n9)), (0, .ref (ar 0)), (1, .int (nI n3)), (2, .int (nI n8))] ∧ stk = []) ?_ (25 - k14) _ _ _ _ ⟨k14, z15, st16, sl17, rfl, by omega, by omega, by omega, hP, hG, hL, hS, lv_sub hl [0, 1, 2, 3, 4, 5, 6] rfl, rfl⟩
          rintro nn stk H locs ls ⟨k22, z23, st24, sl25, hm28, hv26_0, hv27_1, hv28_0, hP, hG, hL, hS, hl, rfl⟩ ih29
          refine lv_iload hx hb dX12_best_84 (lv_at hl 0 rfl) ?_
          refine lv_bipush (v := 24) hx hb dX12_best_86 (by decide) ?_
          refine lv_icmp_ge (tgt := 155) hx hb dX12_best_88 (by decide) (fun c5 => ?_) (fun c5 => ?_)
          · have c5 : 24 ≤ k22 := (nI_leI (a := 24) (b := k22) (by omega) (by omega)).mp c5
            refine lv_iinc (v := (nI (k14 + 1))) (lv' := [(5, .int (nI (k14 + 1))), (6, .int (nI k22)), (4, .int z23), (3, .int (nI n9)), (0, .ref (ar 0)), (1, .int (nI n3)), (2, .int (nI n8))]) hx hb dX12_best_155 hl (k := 1) rfl (nI_add k14 1) (by decide) rfl (fun ls hl => ?_)
            refine lv_goto (tgt := 73) hx hb dX12_best_158 (by decide) ?_
            exact ih20 (25 - (k14 + 1)) _ _ _ _ (by omega) ⟨(k14 + 1), z23, st24, sl25, rfl, by omega, by omega, hP, hG, hL, hS, lv_sub hl [0, 2, 3, 4, 5, 6] rfl, rfl⟩
          · have c5 : ¬ 24 ≤ k22 := fun hh => c5 ((nI_leI (a := 24) (b := k22) (by omega) (by omega)).mpr hh)
            refine lv_aload_n hx hb dX12_best_91 rfl (lv_at hl 4 rfl) ?_
            refine va_get (D := (dC, dI)) (ci := 11) (v := .ref (ar 2)) (C := RX12) (T := TX12) (N := 47) hx hb hts ii_X12_best hown hK hP 0 rfl rfl 14 (by decide) (hts _ mm_X12_best_2) (fun _ hh => hh) rfl dX12_best_92 ?_
            refine lv_bipush (v := 66) hx hb dX12_best_95 (by decide) ?_
            refine lv_iload_n hx hb dX12_best_97 rfl (lv_at hl 5 rfl) ?_
            refine lv_iadd hx hb dX12_best_98 ?_
            refine zz_top (v := nI (66 + n3)) (nI_add 66 n3) ?_
            refine lv_iload hx hb dX12_best_99 (lv_at hl 1 rfl) ?_
            refine lv_iload hx hb dX12_best_101 (lv_at hl 0 rfl) ?_
            refine va_calli (va_runS (As := [.int (nI k14), .int (nI k22)]) (rest := [.int (nI (66 + n3)), .ref (ar 2)]) ⟨hx, hb, hml, hown, hts⟩ (m_hoursInN l dC dI ar cy _ hN st24 sl25 k14 k22 (by omega) (by omega) hG.1 (by omega)) (va_cwS 2 hts gX12_best_X12_hoursIn rfl rfl rfl (by decide +kernel) ⟨Nat.le_of_ble_eq_true rfl, Nat.le_of_ble_eq_true rfl⟩) ⟨fun a U g mk q => ⟨q.1, mPre.blind q.2⟩, fun U hU hW => ⟨rfl, mPre.of hP hK hU hW⟩⟩ rfl rfl hl.1 rfl (lv_room (Nat.le_of_ble_eq_true rfl)) dX12_best_103 ⟨Nat.le_of_ble_eq_true rfl, Nat.le_of_ble_eq_true rfl⟩) hS (fun q _ h => MA.le hS.1 q h) (MA.le hS.1) (fun r30 x t H locs ht hvm hw hB _ _ hS => ?_)
            have hP := mB.at ht hB
            clear hB ht hvm
            obtain ⟨rfl, hw⟩ := hw
            have hP : va_P (dC, dI) vwCl (mw ar cy st24 sl25) _ := hP
            obtain ⟨n31, rfl, hf32⟩ := hw
            refine va_iast hx hb hK hP (mD hN _ _ _ _) hS 2 1 rfl rfl (i := (nI (66 + n3))) (vp_in_nI (by omega) (by decide)) dX12_best_106 (fun H locs hP _ hS => ?_)
            rw [nI_clamp (by omega)] at hP
            have hP : va_P (dC, dI) vwCl (mw ar cy (up2 st24 2 (66 + n3) (nI n31)) sl25) H := hP
            obtain ⟨st33, hP, hG⟩ : ∃ y, va_P (dC, dI) vwCl (mw ar cy y sl25) H ∧ MG [1, 2, 3, 4, 5, 6, 7, 8, 9, 10, 11, 12, 13, 14, 15, 16, 17, 19, 20, 21, 22, 23] st y := ⟨up2 st24 2 (66 + n3) (nI n31), hP, hG.up (rn (n := n31) (mr_2_66_71 (66 + n3) (by omega) (by omega)) (by omega)) (pn (pcl_2_66_71 (66 + n3) (by omega) (by omega)) (by decide))⟩
            refine lv_aload_n hx hb dX12_best_107 rfl (lv_at hl 4 rfl) ?_
            refine lv_iload_n hx hb dX12_best_108 rfl (lv_at hl 6 rfl) ?_
            refine lv_iconst (v := 1) hx hb dX12_best_109 (by decide) ?_
            refine lv_icmp_ne (tgt := 117) hx hb dX12_best_110 (by decide) (fun _ => ?_) (fun cc => absurd ((nI_eq (a := n8) (b := 1) (by omega) (by omega)).mp cc) (by omega))
            refine lv_iconst (v := 0) hx hb dX12_best_117 (by decide) ?_
            refine va_calli (va_runV (As := [.int 0]) (rest := []) ⟨hx, hb, hml, hown, hts⟩ (m_goodAll l dC dI ar cy _ hN st33 sl25 0  hG.1) (cwV 1 hts gX12_best_X12_goodAll rfl rfl rfl (by decide +kernel) ⟨Nat.le_of_ble_eq_true rfl, Nat.le_of_ble_eq_true rfl⟩) ⟨fun a U g mk q => ⟨q.1, mPre.blind q.2⟩, va_recv hK hP (ci := 11) (q0 := 0) rfl rfl, fun U hU hW => ⟨rfl, mPre.of hP hK hU hW⟩⟩ rfl rfl hl.1 rfl (lv_room (Nat.le_of_ble_eq_true rfl)) dX12_best_118 ⟨Nat.le_of_ble_eq_true rfl, Nat.le_of_ble_eq_true rfl⟩) hS (fun q _ h => MA.le hS.1 q h) (MA.le hS.1) (fun r34 x t H locs ht hvm hw hB _ _ hS => ?_)
            have hP := mB.at ht hB
            clear hB ht hvm
            obtain ⟨rfl, hw⟩ := hw
            have hP : va_P (dC, dI) vwCl (mw ar cy st33 sl25) _ := hP
            clear hw
            refine lv_istore (lv' := [(7, .int r34), (6, .int (nI k22)), (5, .int (nI k14)), (4, .int z23), (3, .int (nI n9)), (0, .ref (ar 0)), (1, .int (nI n3)), (2, .int (nI n8))]) hx hb dX12_best_121 hl (by decide) rfl (fun ls hl => ?_)
            refine lv_iload hx hb dX12_best_123 (lv_at hl 0 rfl) ?_
            refine lv_iload hx hb dX12_best_125 (lv_at hl 3 rfl) ?_
            refine lv_icmp_gt (tgt := 133) hx hb dX12_best_127 (by decide) (fun c7 => ?_) (fun c7 => ?_)
            · refine lv_iload hx hb dX12_best_133 (lv_at hl 0 rfl) ?_
              refine lv_istore (lv' := [(4, .int r34), (7, .int r34), (6, .int (nI k22)), (5, .int (nI k14)), (3, .int (nI n9)), (0, .ref (ar 0)), (1, .int (nI n3)), (2, .int (nI n8))]) hx hb dX12_best_135 hl (by decide) rfl (fun ls hl => ?_)
              refine lv_aload_n hx hb dX12_best_137 rfl (lv_at hl 5 rfl) ?_
              refine lv_iload hx hb dX12_best_138 (lv_at hl 3 rfl) ?_
              refine va_put (D := (dC, dI)) (ci := 11) (v := .int (nI k14)) (ty := .int) (C := RX12) (T := TX12) (N := 47) hx hb hts ii_X12_best tyX12 tyX12_ok nmX12 hown hK hP (mD hN _ _ _ _) hS 0 rfl rfl 27 (by decide) (hts _ mm_X12_best_3) (fun _ hh => hh) rfl (by decide +kernel) rfl rfl (Nat.le_of_ble_eq_true rfl) dX12_best_140 (fun H locs hP _ hS => ?_)
              have hP : va_P (dC, dI) vwCl (mw ar cy (up2 st33 0 27 (nI k14)) sl25) H := hP
              obtain ⟨st35, hP, hG⟩ : ∃ y, va_P (dC, dI) vwCl (mw ar cy y sl25) H ∧ MG [1, 2, 3, 4, 5, 6, 7, 8, 9, 10, 11, 12, 13, 14, 15, 16, 17, 19, 20, 21, 22, 23] st y := ⟨up2 st33 0 27 (nI k14), hP, hG.up (rz (by decide : mr 0 27 = 0)) (pn (by decide : pcl 0 27 = 0) (by decide))⟩
              refine lv_aload_n hx hb dX12_best_143 rfl (lv_at hl 5 rfl) ?_
              refine lv_iload hx hb dX12_best_144 (lv_at hl 2 rfl) ?_
              refine va_put (D := (dC, dI)) (ci := 11) (v := .int (nI k22)) (ty := .int) (C := RX12) (T := TX12) (N := 47) hx hb hts ii_X12_best tyX12 tyX12_ok nmX12 hown hK hP (mD hN _ _ _ _) hS 0 rfl rfl 28 (by decide) (hts _ mm_X12_best_4) (fun _ hh => hh) rfl (by decide +kernel) rfl rfl (Nat.le_of_ble_eq_true rfl) dX12_best_146 (fun H locs hP _ hS => ?_)
              have hP : va_P (dC, dI) vwCl (mw ar cy (up2 st35 0 28 (nI k22)) sl25) H := hP
              obtain ⟨st36, hP, hG⟩ : ∃ y, va_P (dC, dI) vwCl (mw ar cy y sl25) H ∧ MG [1, 2, 3, 4, 5, 6, 7, 8, 9, 10, 11, 12, 13, 14, 15, 16, 17, 19, 20, 21, 22, 23] st y := ⟨up2 st35 0 28 (nI k22), hP, hG.up (rz (by decide : mr 0 28 = 0)) (pn (by decide : pcl 0 28 = 0) (by decide))⟩
              refine lv_iinc (v := (nI (k22 + 1))) (lv' := [(6, .int (nI (k22 + 1))), (4, .int r34), (7, .int r34), (5, .int (nI k14)), (3, .int (nI n9)), (0, .ref (ar 0)), (1, .int (nI n3)), (2, .int (nI n8))]) hx hb dX12_best_149 hl (k := 2) rfl (nI_add k22 1) (by decide) rfl (fun ls hl => ?_)
              refine lv_goto (tgt := 84) hx hb dX12_best_152 (by decide) ?_
              exact ih29 (25 - (k22 + 1)) _ _ _ _ (by omega) ⟨(k22 + 1), r34, st36, sl25, rfl, by omega, by omega, by omega, hP, hG, hL, hS, lv_sub hl [0, 3, 1, 4, 5, 6, 7] rfl, rfl⟩
            · refine lv_goto (tgt := 149) hx hb dX12_best_130 (by decide) ?_
              refine lv_iinc (v := (nI (k22 + 1))) (lv' := [(6, .int (nI (k22 + 1))), (7, .int r34), (5, .int (nI k14)), (4, .int z23), (3, .int (nI n9)), (0, .ref (ar 0)), (1, .int (nI n3)), (2, .int (nI n8))]) hx hb dX12_best_149 hl (k := 1) rfl (nI_add k22 1) (by decide) rfl (fun ls hl => ?_)
              refine lv_goto (tgt := 84) hx hb dX12_best_152 (by decide) ?_
              exact ih29 (25 - (k22 + 1)) _ _ _ _ (by omega) ⟨(k22 + 1), z23, st33, sl25, rfl, by omega, by omega, by omega, hP, hG, hL, hS, lv_sub hl [0, 2, 3, 4, 5, 6, 7] rfl, rfl⟩
      · have c3 : n8 = 1 := (nI_eq (a := n8) (b := 1) (by omega) (by omega)).mp c3
        refine lv_iconst (v := 1) hx hb dX12_best_50 (by decide) ?_
        refine lv_goto (tgt := 55) hx hb dX12_best_51 (by decide) ?_
        refine va_calli (va_runV (As := [.int 1]) (rest := []) ⟨hx, hb, hml, hown, hts⟩ (m_goodAll l dC dI ar cy _ hN st10 sl 1  hG.1) (cwV 1 hts gX12_best_X12_goodAll rfl rfl rfl (by decide +kernel) ⟨Nat.le_of_ble_eq_true rfl, Nat.le_of_ble_eq_true rfl⟩) ⟨fun a U g mk q => ⟨q.1, mPre.blind q.2⟩, va_recv hK hP (ci := 11) (q0 := 0) rfl rfl, fun U hU hW => ⟨rfl, mPre.of hP hK hU hW⟩⟩ rfl rfl hl.1 rfl (lv_room (Nat.le_of_ble_eq_true rfl)) dX12_best_55 ⟨Nat.le_of_ble_eq_true rfl, Nat.le_of_ble_eq_true rfl⟩) hS (fun q _ h => MA.le hS.1 q h) (MA.le hS.1) (fun r37 x t H locs ht hvm hw hB _ _ hS => ?_)
        have hP := mB.at ht hB
        clear hB ht hvm
        obtain ⟨rfl, hw⟩ := hw
        have hP : va_P (dC, dI) vwCl (mw ar cy st10 sl) _ := hP
        clear hw
        refine lv_istore (lv' := [(4, .int r37), (3, .int (nI n9)), (0, .ref (ar 0)), (1, .int (nI n3)), (2, .int (nI n8))]) hx hb dX12_best_58 hl (by decide) rfl (fun ls hl => ?_)
        refine lv_aload_n hx hb dX12_best_60 rfl (lv_at hl 2 rfl) ?_
        refine lv_iconst (v := (-1)) hx hb dX12_best_61 (by decide) ?_
        refine va_put (D := (dC, dI)) (ci := 11) (v := .int (-1)) (ty := .int) (C := RX12) (T := TX12) (N := 47) hx hb hts ii_X12_best tyX12 tyX12_ok nmX12 hown hK hP (mD hN _ _ _ _) hS 0 rfl rfl 27 (by decide) (hts _ mm_X12_best_3) (fun _ hh => hh) rfl (by decide +kernel) rfl rfl (Nat.le_of_ble_eq_true rfl) dX12_best_62 (fun H locs hP _ hS => ?_)
        have hP : va_P (dC, dI) vwCl (mw ar cy (up2 st10 0 27 (-1)) sl) H := hP
        obtain ⟨st38, hP, hG⟩ : ∃ y, va_P (dC, dI) vwCl (mw ar cy y sl) H ∧ MG [1, 2, 3, 4, 5, 6, 7, 8, 9, 10, 11, 12, 13, 14, 15, 16, 17, 19, 20, 21, 22, 23] st y := ⟨up2 st10 0 27 (-1), hP, hG.up (rz (by decide : mr 0 27 = 0)) (pn (by decide : pcl 0 27 = 0) (by decide))⟩
        refine lv_aload_n hx hb dX12_best_65 rfl (lv_at hl 2 rfl) ?_
        refine lv_iconst (v := (-1)) hx hb dX12_best_66 (by decide) ?_
        refine va_put (D := (dC, dI)) (ci := 11) (v := .int (-1)) (ty := .int) (C := RX12) (T := TX12) (N := 47) hx hb hts ii_X12_best tyX12 tyX12_ok nmX12 hown hK hP (mD hN _ _ _ _) hS 0 rfl rfl 28 (by decide) (hts _ mm_X12_best_4) (fun _ hh => hh) rfl (by decide +kernel) rfl rfl (Nat.le_of_ble_eq_true rfl) dX12_best_67 (fun H locs hP _ hS => ?_)
        have hP : va_P (dC, dI) vwCl (mw ar cy (up2 st38 0 28 (-1)) sl) H := hP
        obtain ⟨st39, hP, hG⟩ : ∃ y, va_P (dC, dI) vwCl (mw ar cy y sl) H ∧ MG [1, 2, 3, 4, 5, 6, 7, 8, 9, 10, 11, 12, 13, 14, 15, 16, 17, 19, 20, 21, 22, 23] st y := ⟨up2 st38 0 28 (-1), hP, hG.up (rz (by decide : mr 0 28 = 0)) (pn (by decide : pcl 0 28 = 0) (by decide))⟩
        refine lv_iconst (v := 0) hx hb dX12_best_70 (by decide) ?_
        refine lv_istore (lv' := [(5, .int 0), (4, .int r37), (3, .int (nI n9)), (0, .ref (ar 0)), (1, .int (nI n3)), (2, .int (nI n8))]) hx hb dX12_best_71 hl (by decide) rfl (fun ls hl => ?_)
        refine zz_wf (fun n stk H locs ls => ∃ k40 : Nat, ∃ z41 : Int32, ∃ st42 : Nat → Nat → Int32, ∃ sl43 : Nat → Nat → Int64, n = 25 - k40 ∧ 0 ≤ k40 ∧ k40 < 25 ∧ va_P (dC, dI) vwCl (mw ar cy st42 sl43) H ∧ MG [1, 2, 3, 4, 5, 6, 7, 8, 9, 10, 11, 12, 13, 14, 15, 16, 17, 19, 20, 21, 22, 23] st st42 ∧ LQ [7, 9] sl sl43 ∧ va_S (MA ar s.heap.size) s.heap H locs ∧ lv_has ls 8 [(5, .int (nI k40)), (4, .int z41), (3, .int (nI n9)), (0, .ref (ar 0)), (1, .int (nI n3)), (2, .int (nI n8))] ∧ stk = []) ?_ (25 - 0) _ _ _ _ ⟨0, r37, st39, sl, rfl, by omega, by omega, hP, hG, hL, hS, lv_sub hl [0, 1, 2, 3, 4, 5] rfl, rfl⟩
        rintro nn stk H locs ls ⟨k40, z41, st42, sl43, hm45, hv44_0, hv45_1, hP, hG, hL, hS, hl, rfl⟩ ih46
        refine lv_iload hx hb dX12_best_73 (lv_at hl 0 rfl) ?_
        refine lv_bipush (v := 24) hx hb dX12_best_75 (by decide) ?_
        refine lv_icmp_ge (tgt := 161) hx hb dX12_best_77 (by decide) (fun c8 => ?_) (fun c8 => ?_)
        · have c8 : 24 ≤ k40 := (nI_leI (a := 24) (b := k40) (by omega) (by omega)).mp c8
          refine lv_aload_n hx hb dX12_best_161 rfl (lv_at hl 3 rfl) ?_
          refine va_get (D := (dC, dI)) (ci := 11) (v := .ref (ar 2)) (C := RX12) (T := TX12) (N := 47) hx hb hts ii_X12_best hown hK hP 0 rfl rfl 14 (by decide) (hts _ mm_X12_best_2) (fun _ hh => hh) rfl dX12_best_162 ?_
          refine lv_bipush (v := 66) hx hb dX12_best_165 (by decide) ?_
          refine lv_iload_n hx hb dX12_best_167 rfl (lv_at hl 4 rfl) ?_
          refine lv_iadd hx hb dX12_best_168 ?_
          refine zz_top (v := nI (66 + n3)) (nI_add 66 n3) ?_
          refine lv_iload_n hx hb dX12_best_169 rfl (lv_at hl 2 rfl) ?_
          refine va_iast hx hb hK hP (mD hN _ _ _ _) hS 2 1 rfl rfl (i := (nI (66 + n3))) (vp_in_nI (by omega) (by decide)) dX12_best_170 (fun H locs hP _ hS => ?_)
          rw [nI_clamp (by omega)] at hP
          have hP : va_P (dC, dI) vwCl (mw ar cy (up2 st42 2 (66 + n3) (nI n9)) sl43) H := hP
          obtain ⟨st47, hP, hG⟩ : ∃ y, va_P (dC, dI) vwCl (mw ar cy y sl43) H ∧ MG [1, 2, 3, 4, 5, 6, 7, 8, 9, 10, 11, 12, 13, 14, 15, 16, 17, 19, 20, 21, 22, 23] st y := ⟨up2 st42 2 (66 + n3) (nI n9), hP, hG.up (rn (n := n9) (mr_2_66_71 (66 + n3) (by omega) (by omega)) (by omega)) (pn (pcl_2_66_71 (66 + n3) (by omega) (by omega)) (by decide))⟩
          refine lv_iload hx hb dX12_best_171 (lv_at hl 1 rfl) ?_
          exact W.iret (v := z41) hx hb hr (fun t ht hW => ⟨⟨z41, (st47, sl43), rfl, ⟨hG, hL, trivial⟩, mB.of ht hP⟩, hS.F ht⟩) hS.2.2 dX12_best_173
        · have c8 : ¬ 24 ≤ k40 := fun hh => c8 ((nI_leI (a := 24) (b := k40) (by omega) (by omega)).mpr hh)
          refine lv_iload hx hb dX12_best_80 (lv_at hl 0 rfl) ?_
          refine lv_istore (lv' := [(6, .int (nI k40)), (5, .int (nI k40)), (4, .int z41), (3, .int (nI n9)), (0, .ref (ar 0)), (1, .int (nI n3)), (2, .int (nI n8))]) hx hb dX12_best_82 hl (by decide) rfl (fun ls hl => ?_)
          refine zz_wf (fun n stk H locs ls => ∃ k48 : Nat, ∃ z49 : Int32, ∃ st50 : Nat → Nat → Int32, ∃ sl51 : Nat → Nat → Int64, n = 25 - k48 ∧ 0 ≤ k48 ∧ k48 < 25 ∧ k40 ≤ k48 ∧ va_P (dC, dI) vwCl (mw ar cy st50 sl51) H ∧ MG [1, 2, 3, 4, 5, 6, 7, 8, 9, 10, 11, 12, 13, 14, 15, 16, 17, 19, 20, 21, 22, 23] st st50 ∧ LQ [7, 9] sl sl51 ∧ va_S (MA ar s.heap.size) s.heap H locs ∧ lv_has ls 8 [(6, .int (nI k48)), (5, .int (nI k40)), (4, .int z49), (3, .int (nI n9)), (0, .ref (ar 0)), (1, .int (nI n3)), (2, .int (nI n8))] ∧ stk = []) ?_ (25 - k40) _ _ _ _ ⟨k40, z41, st42, sl43, rfl, by omega, by omega, by omega, hP, hG, hL, hS, lv_sub hl [0, 1, 2, 3, 4, 5, 6] rfl, rfl⟩
          rintro nn stk H locs ls ⟨k48, z49, st50, sl51, hm54, hv52_0, hv53_1, hv54_0, hP, hG, hL, hS, hl, rfl⟩ ih55
          refine lv_iload hx hb dX12_best_84 (lv_at hl 0 rfl) ?_
          refine lv_bipush (v := 24) hx hb dX12_best_86 (by decide) ?_
          refine lv_icmp_ge (tgt := 155) hx hb dX12_best_88 (by decide) (fun c9 => ?_) (fun c9 => ?_)
          · have c9 : 24 ≤ k48 := (nI_leI (a := 24) (b := k48) (by omega) (by omega)).mp c9
            refine lv_iinc (v := (nI (k40 + 1))) (lv' := [(5, .int (nI (k40 + 1))), (6, .int (nI k48)), (4, .int z49), (3, .int (nI n9)), (0, .ref (ar 0)), (1, .int (nI n3)), (2, .int (nI n8))]) hx hb dX12_best_155 hl (k := 1) rfl (nI_add k40 1) (by decide) rfl (fun ls hl => ?_)
            refine lv_goto (tgt := 73) hx hb dX12_best_158 (by decide) ?_
            exact ih46 (25 - (k40 + 1)) _ _ _ _ (by omega) ⟨(k40 + 1), z49, st50, sl51, rfl, by omega, by omega, hP, hG, hL, hS, lv_sub hl [0, 2, 3, 4, 5, 6] rfl, rfl⟩
          · have c9 : ¬ 24 ≤ k48 := fun hh => c9 ((nI_leI (a := 24) (b := k48) (by omega) (by omega)).mpr hh)
            refine lv_aload_n hx hb dX12_best_91 rfl (lv_at hl 4 rfl) ?_
            refine va_get (D := (dC, dI)) (ci := 11) (v := .ref (ar 2)) (C := RX12) (T := TX12) (N := 47) hx hb hts ii_X12_best hown hK hP 0 rfl rfl 14 (by decide) (hts _ mm_X12_best_2) (fun _ hh => hh) rfl dX12_best_92 ?_
            refine lv_bipush (v := 66) hx hb dX12_best_95 (by decide) ?_
            refine lv_iload_n hx hb dX12_best_97 rfl (lv_at hl 5 rfl) ?_
            refine lv_iadd hx hb dX12_best_98 ?_
            refine zz_top (v := nI (66 + n3)) (nI_add 66 n3) ?_
            refine lv_iload hx hb dX12_best_99 (lv_at hl 1 rfl) ?_
            refine lv_iload hx hb dX12_best_101 (lv_at hl 0 rfl) ?_
            refine va_calli (va_runS (As := [.int (nI k40), .int (nI k48)]) (rest := [.int (nI (66 + n3)), .ref (ar 2)]) ⟨hx, hb, hml, hown, hts⟩ (m_hoursInN l dC dI ar cy _ hN st50 sl51 k40 k48 (by omega) (by omega) hG.1 (by omega)) (va_cwS 2 hts gX12_best_X12_hoursIn rfl rfl rfl (by decide +kernel) ⟨Nat.le_of_ble_eq_true rfl, Nat.le_of_ble_eq_true rfl⟩) ⟨fun a U g mk q => ⟨q.1, mPre.blind q.2⟩, fun U hU hW => ⟨rfl, mPre.of hP hK hU hW⟩⟩ rfl rfl hl.1 rfl (lv_room (Nat.le_of_ble_eq_true rfl)) dX12_best_103 ⟨Nat.le_of_ble_eq_true rfl, Nat.le_of_ble_eq_true rfl⟩) hS (fun q _ h => MA.le hS.1 q h) (MA.le hS.1) (fun r56 x t H locs ht hvm hw hB _ _ hS => ?_)
            have hP := mB.at ht hB
            clear hB ht hvm
            obtain ⟨rfl, hw⟩ := hw
            have hP : va_P (dC, dI) vwCl (mw ar cy st50 sl51) _ := hP
            obtain ⟨n57, rfl, hf58⟩ := hw
            refine va_iast hx hb hK hP (mD hN _ _ _ _) hS 2 1 rfl rfl (i := (nI (66 + n3))) (vp_in_nI (by omega) (by decide)) dX12_best_106 (fun H locs hP _ hS => ?_)
            rw [nI_clamp (by omega)] at hP
            have hP : va_P (dC, dI) vwCl (mw ar cy (up2 st50 2 (66 + n3) (nI n57)) sl51) H := hP
            obtain ⟨st59, hP, hG⟩ : ∃ y, va_P (dC, dI) vwCl (mw ar cy y sl51) H ∧ MG [1, 2, 3, 4, 5, 6, 7, 8, 9, 10, 11, 12, 13, 14, 15, 16, 17, 19, 20, 21, 22, 23] st y := ⟨up2 st50 2 (66 + n3) (nI n57), hP, hG.up (rn (n := n57) (mr_2_66_71 (66 + n3) (by omega) (by omega)) (by omega)) (pn (pcl_2_66_71 (66 + n3) (by omega) (by omega)) (by decide))⟩
            refine lv_aload_n hx hb dX12_best_107 rfl (lv_at hl 4 rfl) ?_
            refine lv_iload_n hx hb dX12_best_108 rfl (lv_at hl 6 rfl) ?_
            refine lv_iconst (v := 1) hx hb dX12_best_109 (by decide) ?_
            refine lv_icmp_ne (tgt := 117) hx hb dX12_best_110 (by decide) (fun c10 => ?_) (fun c10 => ?_)
            · have c10 : ¬ n8 = 1 := fun hh => c10 ((nI_eq (a := n8) (b := 1) (by omega) (by omega)).mpr hh)
              refine lv_iconst (v := 0) hx hb dX12_best_117 (by decide) ?_
              refine va_calli (va_runV (As := [.int 0]) (rest := []) ⟨hx, hb, hml, hown, hts⟩ (m_goodAll l dC dI ar cy _ hN st59 sl51 0  hG.1) (cwV 1 hts gX12_best_X12_goodAll rfl rfl rfl (by decide +kernel) ⟨Nat.le_of_ble_eq_true rfl, Nat.le_of_ble_eq_true rfl⟩) ⟨fun a U g mk q => ⟨q.1, mPre.blind q.2⟩, va_recv hK hP (ci := 11) (q0 := 0) rfl rfl, fun U hU hW => ⟨rfl, mPre.of hP hK hU hW⟩⟩ rfl rfl hl.1 rfl (lv_room (Nat.le_of_ble_eq_true rfl)) dX12_best_118 ⟨Nat.le_of_ble_eq_true rfl, Nat.le_of_ble_eq_true rfl⟩) hS (fun q _ h => MA.le hS.1 q h) (MA.le hS.1) (fun r60 x t H locs ht hvm hw hB _ _ hS => ?_)
              have hP := mB.at ht hB
              clear hB ht hvm
              obtain ⟨rfl, hw⟩ := hw
              have hP : va_P (dC, dI) vwCl (mw ar cy st59 sl51) _ := hP
              clear hw
              refine lv_istore (lv' := [(7, .int r60), (6, .int (nI k48)), (5, .int (nI k40)), (4, .int z49), (3, .int (nI n9)), (0, .ref (ar 0)), (1, .int (nI n3)), (2, .int (nI n8))]) hx hb dX12_best_121 hl (by decide) rfl (fun ls hl => ?_)
              refine lv_iload hx hb dX12_best_123 (lv_at hl 0 rfl) ?_
              refine lv_iload hx hb dX12_best_125 (lv_at hl 3 rfl) ?_
              refine lv_icmp_gt (tgt := 133) hx hb dX12_best_127 (by decide) (fun c11 => ?_) (fun c11 => ?_)
              · refine lv_iload hx hb dX12_best_133 (lv_at hl 0 rfl) ?_
                refine lv_istore (lv' := [(4, .int r60), (7, .int r60), (6, .int (nI k48)), (5, .int (nI k40)), (3, .int (nI n9)), (0, .ref (ar 0)), (1, .int (nI n3)), (2, .int (nI n8))]) hx hb dX12_best_135 hl (by decide) rfl (fun ls hl => ?_)
                refine lv_aload_n hx hb dX12_best_137 rfl (lv_at hl 5 rfl) ?_
                refine lv_iload hx hb dX12_best_138 (lv_at hl 3 rfl) ?_
                refine va_put (D := (dC, dI)) (ci := 11) (v := .int (nI k40)) (ty := .int) (C := RX12) (T := TX12) (N := 47) hx hb hts ii_X12_best tyX12 tyX12_ok nmX12 hown hK hP (mD hN _ _ _ _) hS 0 rfl rfl 27 (by decide) (hts _ mm_X12_best_3) (fun _ hh => hh) rfl (by decide +kernel) rfl rfl (Nat.le_of_ble_eq_true rfl) dX12_best_140 (fun H locs hP _ hS => ?_)
                have hP : va_P (dC, dI) vwCl (mw ar cy (up2 st59 0 27 (nI k40)) sl51) H := hP
                obtain ⟨st61, hP, hG⟩ : ∃ y, va_P (dC, dI) vwCl (mw ar cy y sl51) H ∧ MG [1, 2, 3, 4, 5, 6, 7, 8, 9, 10, 11, 12, 13, 14, 15, 16, 17, 19, 20, 21, 22, 23] st y := ⟨up2 st59 0 27 (nI k40), hP, hG.up (rz (by decide : mr 0 27 = 0)) (pn (by decide : pcl 0 27 = 0) (by decide))⟩
                refine lv_aload_n hx hb dX12_best_143 rfl (lv_at hl 5 rfl) ?_
                refine lv_iload hx hb dX12_best_144 (lv_at hl 2 rfl) ?_
                refine va_put (D := (dC, dI)) (ci := 11) (v := .int (nI k48)) (ty := .int) (C := RX12) (T := TX12) (N := 47) hx hb hts ii_X12_best tyX12 tyX12_ok nmX12 hown hK hP (mD hN _ _ _ _) hS 0 rfl rfl 28 (by decide) (hts _ mm_X12_best_4) (fun _ hh => hh) rfl (by decide +kernel) rfl rfl (Nat.le_of_ble_eq_true rfl) dX12_best_146 (fun H locs hP _ hS => ?_)
                have hP : va_P (dC, dI) vwCl (mw ar cy (up2 st61 0 28 (nI k48)) sl51) H := hP
                obtain ⟨st62, hP, hG⟩ : ∃ y, va_P (dC, dI) vwCl (mw ar cy y sl51) H ∧ MG [1, 2, 3, 4, 5, 6, 7, 8, 9, 10, 11, 12, 13, 14, 15, 16, 17, 19, 20, 21, 22, 23] st y := ⟨up2 st61 0 28 (nI k48), hP, hG.up (rz (by decide : mr 0 28 = 0)) (pn (by decide : pcl 0 28 = 0) (by decide))⟩
                refine lv_iinc (v := (nI (k48 + 1))) (lv' := [(6, .int (nI (k48 + 1))), (4, .int r60), (7, .int r60), (5, .int (nI k40)), (3, .int (nI n9)), (0, .ref (ar 0)), (1, .int (nI n3)), (2, .int (nI n8))]) hx hb dX12_best_149 hl (k := 2) rfl (nI_add k48 1) (by decide) rfl (fun ls hl => ?_)
                refine lv_goto (tgt := 84) hx hb dX12_best_152 (by decide) ?_
                exact ih55 (25 - (k48 + 1)) _ _ _ _ (by omega) ⟨(k48 + 1), r60, st62, sl51, rfl, by omega, by omega, by omega, hP, hG, hL, hS, lv_sub hl [0, 3, 1, 4, 5, 6, 7] rfl, rfl⟩
              · refine lv_goto (tgt := 149) hx hb dX12_best_130 (by decide) ?_
                refine lv_iinc (v := (nI (k48 + 1))) (lv' := [(6, .int (nI (k48 + 1))), (7, .int r60), (5, .int (nI k40)), (4, .int z49), (3, .int (nI n9)), (0, .ref (ar 0)), (1, .int (nI n3)), (2, .int (nI n8))]) hx hb dX12_best_149 hl (k := 1) rfl (nI_add k48 1) (by decide) rfl (fun ls hl => ?_)
                refine lv_goto (tgt := 84) hx hb dX12_best_152 (by decide) ?_
                exact ih55 (25 - (k48 + 1)) _ _ _ _ (by omega) ⟨(k48 + 1), z49, st59, sl51, rfl, by omega, by omega, by omega, hP, hG, hL, hS, lv_sub hl [0, 2, 3, 4, 5, 6, 7] rfl, rfl⟩
            · have c10 : n8 = 1 := (nI_eq (a := n8) (b := 1) (by omega) (by omega)).mp c10
              refine lv_iconst (v := 1) hx hb dX12_best_113 (by decide) ?_
              refine lv_goto (tgt := 118) hx hb dX12_best_114 (by decide) ?_
              refine va_calli (va_runV (As := [.int 1]) (rest := []) ⟨hx, hb, hml, hown, hts⟩ (m_goodAll l dC dI ar cy _ hN st59 sl51 1  hG.1) (cwV 1 hts gX12_best_X12_goodAll rfl rfl rfl (by decide +kernel) ⟨Nat.le_of_ble_eq_true rfl, Nat.le_of_ble_eq_true rfl⟩) ⟨fun a U g mk q => ⟨q.1, mPre.blind q.2⟩, va_recv hK hP (ci := 11) (q0 := 0) rfl rfl, fun U hU hW => ⟨rfl, mPre.of hP hK hU hW⟩⟩ rfl rfl hl.1 rfl (lv_room (Nat.le_of_ble_eq_true rfl)) dX12_best_118 ⟨Nat.le_of_ble_eq_true rfl, Nat.le_of_ble_eq_true rfl⟩) hS (fun q _ h => MA.le hS.1 q h) (MA.le hS.1) (fun r63 x t H locs ht hvm hw hB _ _ hS => ?_)
              have hP := mB.at ht hB
              clear hB ht hvm
              obtain ⟨rfl, hw⟩ := hw
              have hP : va_P (dC, dI) vwCl (mw ar cy st59 sl51) _ := hP
              clear hw
              refine lv_istore (lv' := [(7, .int r63), (6, .int (nI k48)), (5, .int (nI k40)), (4, .int z49), (3, .int (nI n9)), (0, .ref (ar 0)), (1, .int (nI n3)), (2, .int (nI n8))]) hx hb dX12_best_121 hl (by decide) rfl (fun ls hl => ?_)
              refine lv_iload hx hb dX12_best_123 (lv_at hl 0 rfl) ?_
              refine lv_iload hx hb dX12_best_125 (lv_at hl 3 rfl) ?_
              refine lv_icmp_gt (tgt := 133) hx hb dX12_best_127 (by decide) (fun c12 => ?_) (fun c12 => ?_)
              · refine lv_iload hx hb dX12_best_133 (lv_at hl 0 rfl) ?_
                refine lv_istore (lv' := [(4, .int r63), (7, .int r63), (6, .int (nI k48)), (5, .int (nI k40)), (3, .int (nI n9)), (0, .ref (ar 0)), (1, .int (nI n3)), (2, .int (nI n8))]) hx hb dX12_best_135 hl (by decide) rfl (fun ls hl => ?_)
                refine lv_aload_n hx hb dX12_best_137 rfl (lv_at hl 5 rfl) ?_
                refine lv_iload hx hb dX12_best_138 (lv_at hl 3 rfl) ?_
                refine va_put (D := (dC, dI)) (ci := 11) (v := .int (nI k40)) (ty := .int) (C := RX12) (T := TX12) (N := 47) hx hb hts ii_X12_best tyX12 tyX12_ok nmX12 hown hK hP (mD hN _ _ _ _) hS 0 rfl rfl 27 (by decide) (hts _ mm_X12_best_3) (fun _ hh => hh) rfl (by decide +kernel) rfl rfl (Nat.le_of_ble_eq_true rfl) dX12_best_140 (fun H locs hP _ hS => ?_)
                have hP : va_P (dC, dI) vwCl (mw ar cy (up2 st59 0 27 (nI k40)) sl51) H := hP
                obtain ⟨st64, hP, hG⟩ : ∃ y, va_P (dC, dI) vwCl (mw ar cy y sl51) H ∧ MG [1, 2, 3, 4, 5, 6, 7, 8, 9, 10, 11, 12, 13, 14, 15, 16, 17, 19, 20, 21, 22, 23] st y := ⟨up2 st59 0 27 (nI k40), hP, hG.up (rz (by decide : mr 0 27 = 0)) (pn (by decide : pcl 0 27 = 0) (by decide))⟩
                refine lv_aload_n hx hb dX12_best_143 rfl (lv_at hl 5 rfl) ?_
                refine lv_iload hx hb dX12_best_144 (lv_at hl 2 rfl) ?_
                refine va_put (D := (dC, dI)) (ci := 11) (v := .int (nI k48)) (ty := .int) (C := RX12) (T := TX12) (N := 47) hx hb hts ii_X12_best tyX12 tyX12_ok nmX12 hown hK hP (mD hN _ _ _ _) hS 0 rfl rfl 28 (by decide) (hts _ mm_X12_best_4) (fun _ hh => hh) rfl (by decide +kernel) rfl rfl (Nat.le_of_ble_eq_true rfl) dX12_best_146 (fun H locs hP _ hS => ?_)
                have hP : va_P (dC, dI) vwCl (mw ar cy (up2 st64 0 28 (nI k48)) sl51) H := hP
                obtain ⟨st65, hP, hG⟩ : ∃ y, va_P (dC, dI) vwCl (mw ar cy y sl51) H ∧ MG [1, 2, 3, 4, 5, 6, 7, 8, 9, 10, 11, 12, 13, 14, 15, 16, 17, 19, 20, 21, 22, 23] st y := ⟨up2 st64 0 28 (nI k48), hP, hG.up (rz (by decide : mr 0 28 = 0)) (pn (by decide : pcl 0 28 = 0) (by decide))⟩
                refine lv_iinc (v := (nI (k48 + 1))) (lv' := [(6, .int (nI (k48 + 1))), (4, .int r63), (7, .int r63), (5, .int (nI k40)), (3, .int (nI n9)), (0, .ref (ar 0)), (1, .int (nI n3)), (2, .int (nI n8))]) hx hb dX12_best_149 hl (k := 2) rfl (nI_add k48 1) (by decide) rfl (fun ls hl => ?_)
                refine lv_goto (tgt := 84) hx hb dX12_best_152 (by decide) ?_
                exact ih55 (25 - (k48 + 1)) _ _ _ _ (by omega) ⟨(k48 + 1), r63, st65, sl51, rfl, by omega, by omega, by omega, hP, hG, hL, hS, lv_sub hl [0, 3, 1, 4, 5, 6, 7] rfl, rfl⟩
              · refine lv_goto (tgt := 149) hx hb dX12_best_130 (by decide) ?_
                refine lv_iinc (v := (nI (k48 + 1))) (lv' := [(6, .int (nI (k48 + 1))), (7, .int r63), (5, .int (nI k40)), (4, .int z49), (3, .int (nI n9)), (0, .ref (ar 0)), (1, .int (nI n3)), (2, .int (nI n8))]) hx hb dX12_best_149 hl (k := 1) rfl (nI_add k48 1) (by decide) rfl (fun ls hl => ?_)
                refine lv_goto (tgt := 84) hx hb dX12_best_152 (by decide) ?_
                exact ih55 (25 - (k48 + 1)) _ _ _ _ (by omega) ⟨(k48 + 1), z49, st59, sl51, rfl, by omega, by omega, by omega, hP, hG, hL, hS, lv_sub hl [0, 2, 3, 4, 5, 6, 7] rfl, rfl⟩
    · refine lv_if_ne (tgt := 24) hx hb dX12_best_19 (by decide) (fun cc => absurd (by decide) cc) (fun _ => ?_)
      refine lv_iconst (v := (-1)) hx hb dX12_best_22 (by decide) ?_
      exact W.iret (v := (-1)) hx hb hr (fun t ht hW => ⟨⟨(-1), (st1, sl), rfl, ⟨hG, hL, trivial⟩, mB.of ht hP⟩, hS.F ht⟩) hS.2.2 dX12_best_23
  · refine lv_if_eq (tgt := 22) hx hb dX12_best_10 (by decide) (fun _ => ?_) (fun cc => absurd (by decide) cc)
    refine lv_iconst (v := (-1)) hx hb dX12_best_22 (by decide) ?_
    exact W.iret (v := (-1)) hx hb hr (fun t ht hW => ⟨⟨(-1), (st1, sl), rfl, ⟨hG, hL, trivial⟩, mB.of ht hP⟩, hS.F ht⟩) hS.2.2 dX12_best_23
set_option maxHeartbeats 4000000 in
set_option maxRecDepth 100000 in
theorem m_fences (l : Launch) (dC : Nat → ClassId) (dI : Nat → Nat → Nat) (ar : Nat → Nat) (cy : Nat → ClassId) (sz : Nat) (hN : MN ar) (st : Nat → Nat → Int32) (sl : Nat → Nat → Int64) (hI : MI st) : Met l yX12_fences wsX12_fences ({ frames := 5, cells := 0, slots := 0, locals := 111 }) (va_Pc [.ref (ar 0)] (mPre dC dI ar cy sz st sl)) (va_Qi (fun (r : Int32) (x : MT) => MG [1, 2, 3, 4, 5, 6, 7, 8, 9, 10, 11, 12, 13, 14, 15, 16, 17, 19, 20, 21, 22, 23] st x.1 ∧ LQ [7, 9] sl x.2 ∧ (True)) (mB dC dI ar cy) (MA ar sz)) 0 0 (MA ar sz) := by
  refine Met.ofW (cc := cX12_fences) (maxL := 6) (ret := (some .int)) (by decide) rfl ?_
  intro p e s m args below meth c s₁ B hml hv
  obtain ⟨rfl, hsz, hP, hK⟩ := hv
  have hx := B.exec
  have hb := B.bytes
  have hr := B.returns
  have hts := atoms_spec (ws := wsX12_fences) B.pre
  have hown : s.vm.findClass RX12 = some m.cls := findClass_of_methodNamed B.named
  subst hsz
  have hS : va_S (MA ar s.heap.size) s.heap s.heap [] := va_S.rf
  have hG : MG [1, 2, 3, 4, 5, 6, 7, 8, 9, 10, 11, 12, 13, 14, 15, 16, 17, 19, 20, 21, 22, 23] st st := MG.rf hI
  have hl := lv_entry ([.ref (ar 0)]) (n := 6) (Nat.le_of_ble_eq_true rfl)
  rw [lg_entry_eq]
  generalize (lg_sl ([.ref (ar 0)]) ++ List.replicate (6 - (lg_sl ([.ref (ar 0)])).length) Slot.unset).toArray = ls at hl ⊢
  have hl : lv_has ls 6 [(0, .ref (ar 0))] := hl
  clear hI
  have hL : LQ [7, 9] sl sl := LQ.rf
  refine lv_aload_n hx hb dX12_fences_0 rfl (lv_at hl 0 rfl) ?_
  refine lv_iconst (v := 0) hx hb dX12_fences_1 (by decide) ?_
  refine va_put (D := (dC, dI)) (ci := 11) (v := .int 0) (ty := .int) (C := RX12) (T := TX12) (N := 47) hx hb hts ii_X12_fences tyX12 tyX12_ok nmX12 hown hK hP (mD hN _ _ _ _) hS 0 rfl rfl 0 (by decide) (hts _ mm_X12_fences_1) (fun _ hh => hh) rfl (by decide +kernel) rfl rfl (Nat.le_of_ble_eq_true rfl) dX12_fences_2 (fun H locs hP _ hS => ?_)
  have hP : va_P (dC, dI) vwCl (mw ar cy (up2 st 0 0 0) sl) H := hP
  obtain ⟨st1, hP, hG⟩ : ∃ y, va_P (dC, dI) vwCl (mw ar cy y sl) H ∧ MG [1, 2, 3, 4, 5, 6, 7, 8, 9, 10, 11, 12, 13, 14, 15, 16, 17, 19, 20, 21, 22, 23] st y := ⟨up2 st 0 0 0, hP, hG.up (rz (by decide : mr 0 0 = 0)) (pn (by decide : pcl 0 0 = 0) (by decide))⟩
  refine lv_aload_n hx hb dX12_fences_5 rfl (lv_at hl 0 rfl) ?_
  refine va_get (D := (dC, dI)) (ci := 11) (v := .ref (ar 2)) (C := RX12) (T := TX12) (N := 47) hx hb hts ii_X12_fences hown hK hP 0 rfl rfl 14 (by decide) (hts _ mm_X12_fences_2) (fun _ hh => hh) rfl dX12_fences_6 ?_
  refine lv_bipush (v := 65) hx hb dX12_fences_9 (by decide) ?_
  refine va_iald hx hb hK hP 2 1 rfl rfl (i := 65) (zz_in (by decide)) dX12_fences_11 ?_
  refine lv_topi (fun z2 ez2 => ?_)
  clear ez2
  refine lv_istore_n (lv' := [(1, .int z2), (0, .ref (ar 0))]) hx hb dX12_fences_12 rfl hl (by decide) rfl (fun ls hl => ?_)
  refine lv_iconst (v := (-1)) hx hb dX12_fences_13 (by decide) ?_
  refine lv_istore_n (lv' := [(2, .int (-1)), (1, .int z2), (0, .ref (ar 0))]) hx hb dX12_fences_14 rfl hl (by decide) rfl (fun ls hl => ?_)
  refine lv_iconst (v := (-1)) hx hb dX12_fences_15 (by decide) ?_
  refine lv_istore_n (lv' := [(3, .int (-1)), (2, .int (-1)), (1, .int z2), (0, .ref (ar 0))]) hx hb dX12_fences_16 rfl hl (by decide) rfl (fun ls hl => ?_)
  refine lv_iconst (v := 0) hx hb dX12_fences_17 (by decide) ?_
  refine lv_istore (lv' := [(4, .int 0), (3, .int (-1)), (2, .int (-1)), (1, .int z2), (0, .ref (ar 0))]) hx hb dX12_fences_18 hl (by decide) rfl (fun ls hl => ?_)
  refine zz_wf (fun n stk H locs ls => ∃ k3 : Nat, ∃ z4 : Int32, ∃ z5 : Int32, ∃ st6 : Nat → Nat → Int32, ∃ sl7 : Nat → Nat → Int64, n = 6 - k3 ∧ 0 ≤ k3 ∧ k3 < 6 ∧ va_P (dC, dI) vwCl (mw ar cy st6 sl7) H ∧ MG [1, 2, 3, 4, 5, 6, 7, 8, 9, 10, 11, 12, 13, 14, 15, 16, 17, 19, 20, 21, 22, 23] st st6 ∧ LQ [7, 9] sl sl7 ∧ va_S (MA ar s.heap.size) s.heap H locs ∧ lv_has ls 6 [(4, .int (nI k3)), (3, .int z4), (2, .int z5), (1, .int z2), (0, .ref (ar 0))] ∧ stk = []) ?_ (6 - 0) _ _ _ _ ⟨0, (-1), (-1), st1, sl, rfl, by omega, by omega, hP, hG, hL, hS, lv_sub hl [0, 1, 2, 3, 4] rfl, rfl⟩
  rintro nn stk H locs ls ⟨k3, z4, z5, st6, sl7, hm9, hv8_0, hv9_1, hP, hG, hL, hS, hl, rfl⟩ ih10
  refine lv_iload hx hb dX12_fences_20 (lv_at hl 0 rfl) ?_
  refine lv_aload_n hx hb dX12_fences_22 rfl (lv_at hl 4 rfl) ?_
  refine va_get (D := (dC, dI)) (ci := 11) (v := .ref (ar 2)) (C := RX12) (T := TX12) (N := 47) hx hb hts ii_X12_fences hown hK hP 0 rfl rfl 14 (by decide) (hts _ mm_X12_fences_2) (fun _ hh => hh) rfl dX12_fences_23 ?_
  refine lv_iconst (v := 0) hx hb dX12_fences_26 (by decide) ?_
  refine va_iald hx hb hK hP 2 1 rfl rfl (i := 0) (zz_in (by decide)) dX12_fences_27 ?_
  obtain ⟨n11, hn11, en11⟩ := hG.1.at (r := 2) (k := 0) (by decide : mr 2 0 = 6) (by decide)
  refine zz_top (v := nI n11) (by exact en11) ?_
  clear en11
  refine lv_icmp_ge (tgt := 72) hx hb dX12_fences_28 (by decide) (fun c1 => ?_) (fun c1 => ?_)
  · have c1 : n11 ≤ k3 := (nI_leI (a := n11) (b := k3) (by omega) (by omega)).mp c1
    refine lv_aload_n hx hb dX12_fences_72 rfl (lv_at hl 4 rfl) ?_
    refine va_get (D := (dC, dI)) (ci := 11) (v := .ref (ar 2)) (C := RX12) (T := TX12) (N := 47) hx hb hts ii_X12_fences hown hK hP 0 rfl rfl 14 (by decide) (hts _ mm_X12_fences_2) (fun _ hh => hh) rfl dX12_fences_73 ?_
    refine lv_bipush (v := 65) hx hb dX12_fences_76 (by decide) ?_
    refine lv_iload_n hx hb dX12_fences_78 rfl (lv_at hl 3 rfl) ?_
    refine va_iast hx hb hK hP (mD hN _ _ _ _) hS 2 1 rfl rfl (i := 65) (zz_in (by decide)) dX12_fences_79 (fun H locs hP _ hS => ?_)
    have hP : va_P (dC, dI) vwCl (mw ar cy (up2 st6 2 65 z2) sl7) H := hP
    obtain ⟨st12, hP, hG⟩ : ∃ y, va_P (dC, dI) vwCl (mw ar cy y sl7) H ∧ MG [1, 2, 3, 4, 5, 6, 7, 8, 9, 10, 11, 12, 13, 14, 15, 16, 17, 19, 20, 21, 22, 23] st y := ⟨up2 st6 2 65 z2, hP, hG.up (rz (by decide : mr 2 65 = 0)) (pn (by decide : pcl 2 65 = 0) (by decide))⟩
    refine lv_iload_n hx hb dX12_fences_80 rfl (lv_at hl 2 rfl) ?_
    exact W.iret (v := z5) hx hb hr (fun t ht hW => ⟨⟨z5, (st12, sl7), rfl, ⟨hG, hL, trivial⟩, mB.of ht hP⟩, hS.F ht⟩) hS.2.2 dX12_fences_81
  · have c1 : ¬ n11 ≤ k3 := fun hh => c1 ((nI_leI (a := n11) (b := k3) (by omega) (by omega)).mpr hh)
    refine lv_aload_n hx hb dX12_fences_31 rfl (lv_at hl 4 rfl) ?_
    refine va_get (D := (dC, dI)) (ci := 11) (v := .ref (ar 2)) (C := RX12) (T := TX12) (N := 47) hx hb hts ii_X12_fences hown hK hP 0 rfl rfl 14 (by decide) (hts _ mm_X12_fences_2) (fun _ hh => hh) rfl dX12_fences_32 ?_
    refine lv_bipush (v := 65) hx hb dX12_fences_35 (by decide) ?_
    refine lv_iload_n hx hb dX12_fences_37 rfl (lv_at hl 3 rfl) ?_
    refine lv_iconst (v := 1) hx hb dX12_fences_38 (by decide) ?_
    refine lv_iload hx hb dX12_fences_39 (lv_at hl 0 rfl) ?_
    refine lv_ishl hx hb dX12_fences_41 ?_
    refine lv_topi (fun z13 ez13 => ?_)
    clear ez13
    refine lv_ior hx hb dX12_fences_42 ?_
    refine lv_topi (fun z14 ez14 => ?_)
    clear ez14
    refine va_iast hx hb hK hP (mD hN _ _ _ _) hS 2 1 rfl rfl (i := 65) (zz_in (by decide)) dX12_fences_43 (fun H locs hP _ hS => ?_)
    have hP : va_P (dC, dI) vwCl (mw ar cy (up2 st6 2 65 z14) sl7) H := hP
    obtain ⟨st15, hP, hG⟩ : ∃ y, va_P (dC, dI) vwCl (mw ar cy y sl7) H ∧ MG [1, 2, 3, 4, 5, 6, 7, 8, 9, 10, 11, 12, 13, 14, 15, 16, 17, 19, 20, 21, 22, 23] st y := ⟨up2 st6 2 65 z14, hP, hG.up (rz (by decide : mr 2 65 = 0)) (pn (by decide : pcl 2 65 = 0) (by decide))⟩
    refine lv_aload_n hx hb dX12_fences_44 rfl (lv_at hl 4 rfl) ?_
    refine lv_iconst (v := 1) hx hb dX12_fences_45 (by decide) ?_
    refine va_calli (va_runV (As := [.int 1]) (rest := []) ⟨hx, hb, hml, hown, hts⟩ (m_goodAll l dC dI ar cy _ hN st15 sl7 1  hG.1) (cwV 1 hts gX12_fences_X12_goodAll rfl rfl rfl (by decide +kernel) ⟨Nat.le_of_ble_eq_true rfl, Nat.le_of_ble_eq_true rfl⟩) ⟨fun a U g mk q => ⟨q.1, mPre.blind q.2⟩, va_recv hK hP (ci := 11) (q0 := 0) rfl rfl, fun U hU hW => ⟨rfl, mPre.of hP hK hU hW⟩⟩ rfl rfl hl.1 rfl (lv_room (Nat.le_of_ble_eq_true rfl)) dX12_fences_46 ⟨Nat.le_of_ble_eq_true rfl, Nat.le_of_ble_eq_true rfl⟩) hS (fun q _ h => MA.le hS.1 q h) (MA.le hS.1) (fun r16 x t H locs ht hvm hw hB _ _ hS => ?_)
    have hP := mB.at ht hB
    clear hB ht hvm
    obtain ⟨rfl, hw⟩ := hw
    have hP : va_P (dC, dI) vwCl (mw ar cy st15 sl7) _ := hP
    clear hw
    refine lv_istore (lv' := [(5, .int r16), (4, .int (nI k3)), (3, .int z4), (2, .int z5), (1, .int z2), (0, .ref (ar 0))]) hx hb dX12_fences_49 hl (by decide) rfl (fun ls hl => ?_)
    refine lv_iload hx hb dX12_fences_51 (lv_at hl 0 rfl) ?_
    refine lv_iload_n hx hb dX12_fences_53 rfl (lv_at hl 2 rfl) ?_
    refine lv_icmp_gt (tgt := 60) hx hb dX12_fences_54 (by decide) (fun c2 => ?_) (fun c2 => ?_)
    · refine lv_iload hx hb dX12_fences_60 (lv_at hl 0 rfl) ?_
      refine lv_istore_n (lv' := [(3, .int r16), (5, .int r16), (4, .int (nI k3)), (2, .int z5), (1, .int z2), (0, .ref (ar 0))]) hx hb dX12_fences_62 rfl hl (by decide) rfl (fun ls hl => ?_)
      refine lv_iload hx hb dX12_fences_63 (lv_at hl 2 rfl) ?_
      refine lv_istore_n (lv' := [(2, .int (nI k3)), (3, .int r16), (5, .int r16), (4, .int (nI k3)), (1, .int z2), (0, .ref (ar 0))]) hx hb dX12_fences_65 rfl hl (by decide) rfl (fun ls hl => ?_)
      refine lv_iinc (v := (nI (k3 + 1))) (lv' := [(4, .int (nI (k3 + 1))), (2, .int (nI k3)), (3, .int r16), (5, .int r16), (1, .int z2), (0, .ref (ar 0))]) hx hb dX12_fences_66 hl (k := 3) rfl (nI_add k3 1) (by decide) rfl (fun ls hl => ?_)
      refine lv_goto (tgt := 20) hx hb dX12_fences_69 (by decide) ?_
      exact ih10 (6 - (k3 + 1)) _ _ _ _ (by omega) ⟨(k3 + 1), r16, (nI k3), st15, sl7, rfl, by omega, by omega, hP, hG, hL, hS, lv_sub hl [0, 2, 1, 4, 5] rfl, rfl⟩
    · refine lv_goto (tgt := 66) hx hb dX12_fences_57 (by decide) ?_
      refine lv_iinc (v := (nI (k3 + 1))) (lv' := [(4, .int (nI (k3 + 1))), (5, .int r16), (3, .int z4), (2, .int z5), (1, .int z2), (0, .ref (ar 0))]) hx hb dX12_fences_66 hl (k := 1) rfl (nI_add k3 1) (by decide) rfl (fun ls hl => ?_)
      refine lv_goto (tgt := 20) hx hb dX12_fences_69 (by decide) ?_
      exact ih10 (6 - (k3 + 1)) _ _ _ _ (by omega) ⟨(k3 + 1), z4, z5, st15, sl7, rfl, by omega, by omega, hP, hG, hL, hS, lv_sub hl [0, 2, 3, 4, 5] rfl, rfl⟩
set_option maxHeartbeats 4000000 in
set_option maxRecDepth 100000 in
theorem m_goesElsewhere (l : Launch) (dC : Nat → ClassId) (dI : Nat → Nat → Nat) (ar : Nat → Nat) (cy : Nat → ClassId) (sz : Nat) (hN : MN ar) (st : Nat → Nat → Int32) (sl : Nat → Nat → Int64) (va : Nat) (hva : va < 8) (hI : MI st) : Met l yX12_goesElsewhere wsX12_goesElsewhere ({ frames := 4, cells := 0, slots := 0, locals := 88 }) (va_Pc [.ref (ar 0), .int (nI va)] (mPre dC dI ar cy sz st sl)) (va_Qi (fun (r : Int32) (x : MT) => MG [1, 2, 3, 4, 5, 6, 7, 8, 9, 10, 11, 12, 13, 14, 15, 16, 17, 19, 20, 21, 22, 23] st x.1 ∧ LQ [7, 9] sl x.2 ∧ ((r = 1) ∨ (r = 0))) (mB dC dI ar cy) (MA ar sz)) 0 0 (MA ar sz) := by
  refine Met.ofW (cc := cX12_goesElsewhere) (maxL := 7) (ret := (some .boolean)) (by decide) rfl ?_
  intro p e s m args below meth c s₁ B hml hv
  obtain ⟨rfl, hsz, hP, hK⟩ := hv
  have hx := B.exec
  have hb := B.bytes
  have hr := B.returns
  have hts := atoms_spec (ws := wsX12_goesElsewhere) B.pre
  have hown : s.vm.findClass RX12 = some m.cls := findClass_of_methodNamed B.named
  subst hsz
  have hS : va_S (MA ar s.heap.size) s.heap s.heap [] := va_S.rf
  have hG : MG [1, 2, 3, 4, 5, 6, 7, 8, 9, 10, 11, 12, 13, 14, 15, 16, 17, 19, 20, 21, 22, 23] st st := MG.rf hI
  have hl := lv_entry ([.ref (ar 0), .int (nI va)]) (n := 7) (Nat.le_of_ble_eq_true rfl)
  rw [lg_entry_eq]
  generalize (lg_sl ([.ref (ar 0), .int (nI va)]) ++ List.replicate (7 - (lg_sl ([.ref (ar 0), .int (nI va)])).length) Slot.unset).toArray = ls at hl ⊢
  have hl : lv_has ls 7 [(0, .ref (ar 0)), (1, .int (nI va))] := hl
  clear hI
  have hL : LQ [7, 9] sl sl := LQ.rf
  refine lv_aload_n hx hb dX12_goesElsewhere_0 rfl (lv_at hl 0 rfl) ?_
  refine va_get (D := (dC, dI)) (ci := 11) (v := .ref (ar 2)) (C := RX12) (T := TX12) (N := 47) hx hb hts ii_X12_goesElsewhere hown hK hP 0 rfl rfl 14 (by decide) (hts _ mm_X12_goesElsewhere_1) (fun _ hh => hh) rfl dX12_goesElsewhere_1 ?_
  refine lv_bipush (v := 71) hx hb dX12_goesElsewhere_4 (by decide) ?_
  refine lv_iload_n hx hb dX12_goesElsewhere_6 rfl (lv_at hl 1 rfl) ?_
  refine lv_iadd hx hb dX12_goesElsewhere_7 ?_
  refine zz_top (v := nI (71 + va)) (nI_add 71 va) ?_
  refine va_iald hx hb hK hP 2 1 rfl rfl (i := (nI (71 + va))) (vp_in_nI (by omega) (by decide)) dX12_goesElsewhere_8 ?_
  obtain ⟨n1, hn1, en1⟩ := hG.1.at (r := 2) (k := (71 + va)) (mr_2_71_79 (71 + va) (by omega) (by omega)) (by decide)
  refine zz_top (v := nI n1) (by rw [nI_clamp (by omega)]; exact en1) ?_
  clear en1
  refine lv_istore_n (lv' := [(2, .int (nI n1)), (0, .ref (ar 0)), (1, .int (nI va))]) hx hb dX12_goesElsewhere_9 rfl hl (by decide) rfl (fun ls hl => ?_)
  refine lv_iload_n hx hb dX12_goesElsewhere_10 rfl (lv_at hl 0 rfl) ?_
  refine lv_istore_n (lv' := [(3, .int (nI n1)), (2, .int (nI n1)), (0, .ref (ar 0)), (1, .int (nI va))]) hx hb dX12_goesElsewhere_11 rfl hl (by decide) rfl (fun ls hl => ?_)
  refine lv_aload_n hx hb dX12_goesElsewhere_12 rfl (lv_at hl 2 rfl) ?_
  refine lv_iload_n hx hb dX12_goesElsewhere_13 rfl (lv_at hl 3 rfl) ?_
  refine va_calli (va_runV (As := [.int (nI va)]) (rest := []) ⟨hx, hb, hml, hown, hts⟩ (m_goodOf l dC dI ar cy _ hN st sl va (by omega) hG.1) (cwV 1 hts gX12_goesElsewhere_X12_goodOf rfl rfl rfl (by decide +kernel) ⟨Nat.le_of_ble_eq_true rfl, Nat.le_of_ble_eq_true rfl⟩) ⟨fun a U g mk q => ⟨q.1, mPre.blind q.2⟩, va_recv hK hP (ci := 11) (q0 := 0) rfl rfl, fun U hU hW => ⟨rfl, mPre.of hP hK hU hW⟩⟩ rfl rfl hl.1 rfl (lv_room (Nat.le_of_ble_eq_true rfl)) dX12_goesElsewhere_14 ⟨Nat.le_of_ble_eq_true rfl, Nat.le_of_ble_eq_true rfl⟩) hS (fun q _ h => MA.le hS.1 q h) (MA.le hS.1) (fun r2 x t H locs ht hvm hw hB _ _ hS => ?_)
  have hP := mB.at ht hB
  clear hB ht hvm
  obtain ⟨rfl, hw⟩ := hw
  have hP : va_P (dC, dI) vwCl (mw ar cy st sl) _ := hP
  clear hw
  refine lv_istore (lv' := [(4, .int r2), (3, .int (nI n1)), (2, .int (nI n1)), (0, .ref (ar 0)), (1, .int (nI va))]) hx hb dX12_goesElsewhere_17 hl (by decide) rfl (fun ls hl => ?_)
  refine lv_iconst (v := 0) hx hb dX12_goesElsewhere_19 (by decide) ?_
  refine lv_istore (lv' := [(5, .int 0), (4, .int r2), (3, .int (nI n1)), (2, .int (nI n1)), (0, .ref (ar 0)), (1, .int (nI va))]) hx hb dX12_goesElsewhere_20 hl (by decide) rfl (fun ls hl => ?_)
  refine zz_wf (fun n stk H locs ls => ∃ k3 : Nat, ∃ z4 : Int32, ∃ k5 : Nat, ∃ st6 : Nat → Nat → Int32, ∃ sl7 : Nat → Nat → Int64, n = 6 - k3 ∧ 0 ≤ k3 ∧ k3 < 6 ∧ 0 ≤ k5 ∧ k5 < 5 ∧ va_P (dC, dI) vwCl (mw ar cy st6 sl7) H ∧ MG [1, 2, 3, 4, 5, 6, 7, 8, 9, 10, 11, 12, 13, 14, 15, 16, 17, 19, 20, 21, 22, 23] st st6 ∧ LQ [7, 9] sl sl7 ∧ va_S (MA ar s.heap.size) s.heap H locs ∧ lv_has ls 7 [(5, .int (nI k3)), (4, .int z4), (3, .int (nI k5)), (2, .int (nI n1)), (0, .ref (ar 0)), (1, .int (nI va))] ∧ stk = []) ?_ (6 - 0) _ _ _ _ ⟨0, r2, n1, st, sl, rfl, by omega, by omega, by omega, by omega, hP, hG, hL, hS, lv_sub hl [0, 1, 2, 3, 4, 5] rfl, rfl⟩
  rintro nn stk H locs ls ⟨k3, z4, k5, st6, sl7, hm11, hv8_0, hv9_1, hv10_2, hv11_3, hP, hG, hL, hS, hl, rfl⟩ ih12
  refine lv_iload hx hb dX12_goesElsewhere_22 (lv_at hl 0 rfl) ?_
  refine lv_aload_n hx hb dX12_goesElsewhere_24 rfl (lv_at hl 4 rfl) ?_
  refine va_get (D := (dC, dI)) (ci := 11) (v := .ref (ar 2)) (C := RX12) (T := TX12) (N := 47) hx hb hts ii_X12_goesElsewhere hown hK hP 0 rfl rfl 14 (by decide) (hts _ mm_X12_goesElsewhere_1) (fun _ hh => hh) rfl dX12_goesElsewhere_25 ?_
  refine lv_iconst (v := 0) hx hb dX12_goesElsewhere_28 (by decide) ?_
  refine va_iald hx hb hK hP 2 1 rfl rfl (i := 0) (zz_in (by decide)) dX12_goesElsewhere_29 ?_
  obtain ⟨n13, hn13, en13⟩ := hG.1.at (r := 2) (k := 0) (by decide : mr 2 0 = 6) (by decide)
  refine zz_top (v := nI n13) (by exact en13) ?_
  clear en13
  refine lv_icmp_ge (tgt := 74) hx hb dX12_goesElsewhere_30 (by decide) (fun c1 => ?_) (fun c1 => ?_)
  · have c1 : n13 ≤ k3 := (nI_leI (a := n13) (b := k3) (by omega) (by omega)).mp c1
    refine lv_aload_n hx hb dX12_goesElsewhere_74 rfl (lv_at hl 4 rfl) ?_
    refine va_get (D := (dC, dI)) (ci := 11) (v := .ref (ar 2)) (C := RX12) (T := TX12) (N := 47) hx hb hts ii_X12_goesElsewhere hown hK hP 0 rfl rfl 14 (by decide) (hts _ mm_X12_goesElsewhere_1) (fun _ hh => hh) rfl dX12_goesElsewhere_75 ?_
    refine lv_bipush (v := 71) hx hb dX12_goesElsewhere_78 (by decide) ?_
    refine lv_iload_n hx hb dX12_goesElsewhere_80 rfl (lv_at hl 5 rfl) ?_
    refine lv_iadd hx hb dX12_goesElsewhere_81 ?_
    refine zz_top (v := nI (71 + va)) (nI_add 71 va) ?_
    refine lv_iload_n hx hb dX12_goesElsewhere_82 rfl (lv_at hl 2 rfl) ?_
    refine va_iast hx hb hK hP (mD hN _ _ _ _) hS 2 1 rfl rfl (i := (nI (71 + va))) (vp_in_nI (by omega) (by decide)) dX12_goesElsewhere_83 (fun H locs hP _ hS => ?_)
    rw [nI_clamp (by omega)] at hP
    have hP : va_P (dC, dI) vwCl (mw ar cy (up2 st6 2 (71 + va) (nI k5)) sl7) H := hP
    obtain ⟨st14, hP, hG⟩ : ∃ y, va_P (dC, dI) vwCl (mw ar cy y sl7) H ∧ MG [1, 2, 3, 4, 5, 6, 7, 8, 9, 10, 11, 12, 13, 14, 15, 16, 17, 19, 20, 21, 22, 23] st y := ⟨up2 st6 2 (71 + va) (nI k5), hP, hG.up (rn (n := k5) (mr_2_71_79 (71 + va) (by omega) (by omega)) (by omega)) (pn (pcl_2_71_79 (71 + va) (by omega) (by omega)) (by decide))⟩
    refine lv_iload_n hx hb dX12_goesElsewhere_84 rfl (lv_at hl 2 rfl) ?_
    refine lv_iload_n hx hb dX12_goesElsewhere_85 rfl (lv_at hl 3 rfl) ?_
    refine lv_icmp_eq (tgt := 93) hx hb dX12_goesElsewhere_86 (by decide) (fun c2 => ?_) (fun c2 => ?_)
    · have c2 : k5 = n1 := (nI_eq (a := k5) (b := n1) (by omega) (by omega)).mp c2
      refine lv_iconst (v := 0) hx hb dX12_goesElsewhere_93 (by decide) ?_
      exact W.zret (v := 0) hx hb hr rfl (fun t ht hW => ⟨⟨0, (st14, sl7), rfl, ⟨hG, hL, Or.inr (rfl)⟩, mB.of ht hP⟩, hS.F ht⟩) hS.2.2 dX12_goesElsewhere_94
    · have c2 : ¬ k5 = n1 := fun hh => c2 ((nI_eq (a := k5) (b := n1) (by omega) (by omega)).mpr hh)
      refine lv_iconst (v := 1) hx hb dX12_goesElsewhere_89 (by decide) ?_
      refine lv_goto (tgt := 94) hx hb dX12_goesElsewhere_90 (by decide) ?_
      exact W.zret (v := 1) hx hb hr rfl (fun t ht hW => ⟨⟨1, (st14, sl7), rfl, ⟨hG, hL, Or.inl (rfl)⟩, mB.of ht hP⟩, hS.F ht⟩) hS.2.2 dX12_goesElsewhere_94
  · have c1 : ¬ n13 ≤ k3 := fun hh => c1 ((nI_leI (a := n13) (b := k3) (by omega) (by omega)).mpr hh)
    refine lv_aload_n hx hb dX12_goesElsewhere_33 rfl (lv_at hl 4 rfl) ?_
    refine va_get (D := (dC, dI)) (ci := 11) (v := .ref (ar 2)) (C := RX12) (T := TX12) (N := 47) hx hb hts ii_X12_goesElsewhere hown hK hP 0 rfl rfl 14 (by decide) (hts _ mm_X12_goesElsewhere_1) (fun _ hh => hh) rfl dX12_goesElsewhere_34 ?_
    refine lv_bipush (v := 71) hx hb dX12_goesElsewhere_37 (by decide) ?_
    refine lv_iload_n hx hb dX12_goesElsewhere_39 rfl (lv_at hl 5 rfl) ?_
    refine lv_iadd hx hb dX12_goesElsewhere_40 ?_
    refine zz_top (v := nI (71 + va)) (nI_add 71 va) ?_
    refine lv_iload hx hb dX12_goesElsewhere_41 (lv_at hl 0 rfl) ?_
    refine va_iast hx hb hK hP (mD hN _ _ _ _) hS 2 1 rfl rfl (i := (nI (71 + va))) (vp_in_nI (by omega) (by decide)) dX12_goesElsewhere_43 (fun H locs hP _ hS => ?_)
    rw [nI_clamp (by omega)] at hP
    have hP : va_P (dC, dI) vwCl (mw ar cy (up2 st6 2 (71 + va) (nI k3)) sl7) H := hP
    obtain ⟨st15, hP, hG⟩ : ∃ y, va_P (dC, dI) vwCl (mw ar cy y sl7) H ∧ MG [1, 2, 3, 4, 5, 6, 7, 8, 9, 10, 11, 12, 13, 14, 15, 16, 17, 19, 20, 21, 22, 23] st y := ⟨up2 st6 2 (71 + va) (nI k3), hP, hG.up (rn (n := k3) (mr_2_71_79 (71 + va) (by omega) (by omega)) (by omega)) (pn (pcl_2_71_79 (71 + va) (by omega) (by omega)) (by decide))⟩
    refine lv_aload_n hx hb dX12_goesElsewhere_44 rfl (lv_at hl 4 rfl) ?_
    refine lv_iload_n hx hb dX12_goesElsewhere_45 rfl (lv_at hl 5 rfl) ?_
    refine va_calli (va_runV (As := [.int (nI va)]) (rest := []) ⟨hx, hb, hml, hown, hts⟩ (m_goodOf l dC dI ar cy _ hN st15 sl7 va (by omega) hG.1) (cwV 1 hts gX12_goesElsewhere_X12_goodOf rfl rfl rfl (by decide +kernel) ⟨Nat.le_of_ble_eq_true rfl, Nat.le_of_ble_eq_true rfl⟩) ⟨fun a U g mk q => ⟨q.1, mPre.blind q.2⟩, va_recv hK hP (ci := 11) (q0 := 0) rfl rfl, fun U hU hW => ⟨rfl, mPre.of hP hK hU hW⟩⟩ rfl rfl hl.1 rfl (lv_room (Nat.le_of_ble_eq_true rfl)) dX12_goesElsewhere_46 ⟨Nat.le_of_ble_eq_true rfl, Nat.le_of_ble_eq_true rfl⟩) hS (fun q _ h => MA.le hS.1 q h) (MA.le hS.1) (fun r16 x t H locs ht hvm hw hB _ _ hS => ?_)
    have hP := mB.at ht hB
    clear hB ht hvm
    obtain ⟨rfl, hw⟩ := hw
    have hP : va_P (dC, dI) vwCl (mw ar cy st15 sl7) _ := hP
    clear hw
    refine lv_istore (lv' := [(6, .int r16), (5, .int (nI k3)), (4, .int z4), (3, .int (nI k5)), (2, .int (nI n1)), (0, .ref (ar 0)), (1, .int (nI va))]) hx hb dX12_goesElsewhere_49 hl (by decide) rfl (fun ls hl => ?_)
    refine lv_iload hx hb dX12_goesElsewhere_51 (lv_at hl 0 rfl) ?_
    refine lv_iload hx hb dX12_goesElsewhere_53 (lv_at hl 2 rfl) ?_
    refine lv_icmp_gt (tgt := 61) hx hb dX12_goesElsewhere_55 (by decide) (fun c3 => ?_) (fun c3 => ?_)
    · refine lv_iload hx hb dX12_goesElsewhere_61 (lv_at hl 0 rfl) ?_
      refine lv_istore (lv' := [(4, .int r16), (6, .int r16), (5, .int (nI k3)), (3, .int (nI k5)), (2, .int (nI n1)), (0, .ref (ar 0)), (1, .int (nI va))]) hx hb dX12_goesElsewhere_63 hl (by decide) rfl (fun ls hl => ?_)
      refine lv_iload hx hb dX12_goesElsewhere_65 (lv_at hl 2 rfl) ?_
      refine lv_istore_n (lv' := [(3, .int (nI k3)), (4, .int r16), (6, .int r16), (5, .int (nI k3)), (2, .int (nI n1)), (0, .ref (ar 0)), (1, .int (nI va))]) hx hb dX12_goesElsewhere_67 rfl hl (by decide) rfl (fun ls hl => ?_)
      refine lv_iinc (v := (nI (k3 + 1))) (lv' := [(5, .int (nI (k3 + 1))), (3, .int (nI k3)), (4, .int r16), (6, .int r16), (2, .int (nI n1)), (0, .ref (ar 0)), (1, .int (nI va))]) hx hb dX12_goesElsewhere_68 hl (k := 3) rfl (nI_add k3 1) (by decide) rfl (fun ls hl => ?_)
      refine lv_goto (tgt := 22) hx hb dX12_goesElsewhere_71 (by decide) ?_
      exact ih12 (6 - (k3 + 1)) _ _ _ _ (by omega) ⟨(k3 + 1), r16, k3, st15, sl7, rfl, by omega, by omega, by omega, by omega, hP, hG, hL, hS, lv_sub hl [0, 2, 1, 4, 5, 6] rfl, rfl⟩
    · refine lv_goto (tgt := 68) hx hb dX12_goesElsewhere_58 (by decide) ?_
      refine lv_iinc (v := (nI (k3 + 1))) (lv' := [(5, .int (nI (k3 + 1))), (6, .int r16), (4, .int z4), (3, .int (nI k5)), (2, .int (nI n1)), (0, .ref (ar 0)), (1, .int (nI va))]) hx hb dX12_goesElsewhere_68 hl (k := 1) rfl (nI_add k3 1) (by decide) rfl (fun ls hl => ?_)
      refine lv_goto (tgt := 22) hx hb dX12_goesElsewhere_71 (by decide) ?_
      exact ih12 (6 - (k3 + 1)) _ _ _ _ (by omega) ⟨(k3 + 1), z4, k5, st15, sl7, rfl, by omega, by omega, by omega, by omega, hP, hG, hL, hS, lv_sub hl [0, 2, 3, 4, 5, 6] rfl, rfl⟩
set_option maxHeartbeats 4000000 in
set_option maxRecDepth 100000 in
theorem m_rounds (l : Launch) (dC : Nat → ClassId) (dI : Nat → Nat → Nat) (ar : Nat → Nat) (cy : Nat → ClassId) (sz : Nat) (hN : MN ar) (st : Nat → Nat → Int32) (sl : Nat → Nat → Int64) (hI : MI st) : Met l yX12_rounds wsX12_rounds ({ frames := 5, cells := 0, slots := 0, locals := 114 }) (va_Pc [.ref (ar 0)] (mPre dC dI ar cy sz st sl)) (va_Qi (fun (r : Int32) (x : MT) => MG [1, 2, 3, 4, 5, 6, 7, 8, 9, 10, 11, 12, 13, 14, 15, 16, 17, 19, 20, 21, 22, 23] st x.1 ∧ LQ [7, 9] sl x.2 ∧ (True)) (mB dC dI ar cy) (MA ar sz)) 0 0 (MA ar sz) := by
  refine Met.ofW (cc := cX12_rounds) (maxL := 4) (ret := (some .int)) (by decide) rfl ?_
  intro p e s m args below meth c s₁ B hml hv
  obtain ⟨rfl, hsz, hP, hK⟩ := hv
  have hx := B.exec
  have hb := B.bytes
  have hr := B.returns
  have hts := atoms_spec (ws := wsX12_rounds) B.pre
  have hown : s.vm.findClass RX12 = some m.cls := findClass_of_methodNamed B.named
  subst hsz
  have hS : va_S (MA ar s.heap.size) s.heap s.heap [] := va_S.rf
  have hG : MG [1, 2, 3, 4, 5, 6, 7, 8, 9, 10, 11, 12, 13, 14, 15, 16, 17, 19, 20, 21, 22, 23] st st := MG.rf hI
  have hl := lv_entry ([.ref (ar 0)]) (n := 4) (Nat.le_of_ble_eq_true rfl)
  rw [lg_entry_eq]
  generalize (lg_sl ([.ref (ar 0)]) ++ List.replicate (4 - (lg_sl ([.ref (ar 0)])).length) Slot.unset).toArray = ls at hl ⊢
  have hl : lv_has ls 4 [(0, .ref (ar 0))] := hl
  clear hI
  have hL : LQ [7, 9] sl sl := LQ.rf
  refine lv_aload_n hx hb dX12_rounds_0 rfl (lv_at hl 0 rfl) ?_
  refine lv_iconst (v := 0) hx hb dX12_rounds_1 (by decide) ?_
  refine va_put (D := (dC, dI)) (ci := 11) (v := .int 0) (ty := .int) (C := RX12) (T := TX12) (N := 47) hx hb hts ii_X12_rounds tyX12 tyX12_ok nmX12 hown hK hP (mD hN _ _ _ _) hS 0 rfl rfl 0 (by decide) (hts _ mm_X12_rounds_1) (fun _ hh => hh) rfl (by decide +kernel) rfl rfl (Nat.le_of_ble_eq_true rfl) dX12_rounds_2 (fun H locs hP _ hS => ?_)
  have hP : va_P (dC, dI) vwCl (mw ar cy (up2 st 0 0 0) sl) H := hP
  obtain ⟨st1, hP, hG⟩ : ∃ y, va_P (dC, dI) vwCl (mw ar cy y sl) H ∧ MG [1, 2, 3, 4, 5, 6, 7, 8, 9, 10, 11, 12, 13, 14, 15, 16, 17, 19, 20, 21, 22, 23] st y := ⟨up2 st 0 0 0, hP, hG.up (rz (by decide : mr 0 0 = 0)) (pn (by decide : pcl 0 0 = 0) (by decide))⟩
  refine lv_iconst (v := 0) hx hb dX12_rounds_5 (by decide) ?_
  refine lv_istore_n (lv' := [(1, .int 0), (0, .ref (ar 0))]) hx hb dX12_rounds_6 rfl hl (by decide) rfl (fun ls hl => ?_)
  refine zz_wf (fun n stk H locs ls => ∃ k2 : Nat, ∃ st3 : Nat → Nat → Int32, ∃ sl4 : Nat → Nat → Int64, n = 9 - k2 ∧ 0 ≤ k2 ∧ k2 < 9 ∧ va_P (dC, dI) vwCl (mw ar cy st3 sl4) H ∧ MG [1, 2, 3, 4, 5, 6, 7, 8, 9, 10, 11, 12, 13, 14, 15, 16, 17, 19, 20, 21, 22, 23] st st3 ∧ LQ [7, 9] sl sl4 ∧ va_S (MA ar s.heap.size) s.heap H locs ∧ lv_has ls 4 [(1, .int (nI k2)), (0, .ref (ar 0))] ∧ stk = []) ?_ (9 - 0) _ _ _ _ ⟨0, st1, sl, rfl, by omega, by omega, hP, hG, hL, hS, lv_sub hl [0, 1] rfl, rfl⟩
  rintro nn stk H locs ls ⟨k2, st3, sl4, hm6, hv5_0, hv6_1, hP, hG, hL, hS, hl, rfl⟩ ih7
  refine lv_iload_n hx hb dX12_rounds_7 rfl (lv_at hl 0 rfl) ?_
  refine lv_bipush (v := 8) hx hb dX12_rounds_8 (by decide) ?_
  refine lv_icmp_ge (tgt := 34) hx hb dX12_rounds_10 (by decide) (fun c1 => ?_) (fun c1 => ?_)
  · have c1 : 8 ≤ k2 := (nI_leI (a := 8) (b := k2) (by omega) (by omega)).mp c1
    refine lv_iconst (v := 0) hx hb dX12_rounds_34 (by decide) ?_
    refine lv_istore_n (lv' := [(1, .int 0), (0, .ref (ar 0))]) hx hb dX12_rounds_35 rfl hl (by decide) rfl (fun ls hl => ?_)
    refine lv_iconst (v := 1) hx hb dX12_rounds_36 (by decide) ?_
    refine lv_istore_n (lv' := [(2, .int 1), (1, .int 0), (0, .ref (ar 0))]) hx hb dX12_rounds_37 rfl hl (by decide) rfl (fun ls hl => ?_)
    refine zz_wf (fun n stk H locs ls => ∃ z8 : Int32, ∃ k9 : Nat, ∃ st10 : Nat → Nat → Int32, ∃ sl11 : Nat → Nat → Int64, n = 31 - k9 ∧ 0 ≤ k9 ∧ k9 < 31 ∧ va_P (dC, dI) vwCl (mw ar cy st10 sl11) H ∧ MG [1, 2, 3, 4, 5, 6, 7, 8, 9, 10, 11, 12, 13, 14, 15, 16, 17, 19, 20, 21, 22, 23] st st10 ∧ LQ [7, 9] sl sl11 ∧ va_S (MA ar s.heap.size) s.heap H locs ∧ lv_has ls 4 [(2, .int z8), (1, .int (nI k9)), (0, .ref (ar 0))] ∧ stk = []) ?_ (31 - 0) _ _ _ _ ⟨1, 0, st3, sl4, rfl, by omega, by omega, hP, hG, hL, hS, lv_sub hl [0, 1, 2] rfl, rfl⟩
    rintro nn stk H locs ls ⟨z8, k9, st10, sl11, hm13, hv12_0, hv13_1, hP, hG, hL, hS, hl, rfl⟩ ih14
    refine lv_iload_n hx hb dX12_rounds_38 rfl (lv_at hl 0 rfl) ?_
    refine lv_if_eq (tgt := 84) hx hb dX12_rounds_39 (by decide) (fun c2 => ?_) (fun c2 => ?_)
    · refine lv_aload_n hx hb dX12_rounds_84 rfl (lv_at hl 2 rfl) ?_
      refine lv_aload_n hx hb dX12_rounds_85 rfl (lv_at hl 2 rfl) ?_
      refine lv_iconst (v := 1) hx hb dX12_rounds_86 (by decide) ?_
      refine va_calli (va_runV (As := [.int 1]) (rest := [.ref (ar 0)]) ⟨hx, hb, hml, hown, hts⟩ (m_goodAll l dC dI ar cy _ hN st10 sl11 1  hG.1) (cwV 1 hts gX12_rounds_X12_goodAll rfl rfl rfl (by decide +kernel) ⟨Nat.le_of_ble_eq_true rfl, Nat.le_of_ble_eq_true rfl⟩) ⟨fun a U g mk q => ⟨q.1, mPre.blind q.2⟩, va_recv hK hP (ci := 11) (q0 := 0) rfl rfl, fun U hU hW => ⟨rfl, mPre.of hP hK hU hW⟩⟩ rfl rfl hl.1 rfl (lv_room (Nat.le_of_ble_eq_true rfl)) dX12_rounds_87 ⟨Nat.le_of_ble_eq_true rfl, Nat.le_of_ble_eq_true rfl⟩) hS (fun q _ h => MA.le hS.1 q h) (MA.le hS.1) (fun r15 x t H locs ht hvm hw hB _ _ hS => ?_)
      have hP := mB.at ht hB
      clear hB ht hvm
      obtain ⟨rfl, hw⟩ := hw
      have hP : va_P (dC, dI) vwCl (mw ar cy st10 sl11) _ := hP
      clear hw
      refine va_put (D := (dC, dI)) (ci := 11) (v := .int r15) (ty := .int) (C := RX12) (T := TX12) (N := 47) hx hb hts ii_X12_rounds tyX12 tyX12_ok nmX12 hown hK hP (mD hN _ _ _ _) hS 0 rfl rfl 34 (by decide) (hts _ mm_X12_rounds_4) (fun _ hh => hh) rfl (by decide +kernel) rfl rfl (Nat.le_of_ble_eq_true rfl) dX12_rounds_90 (fun H locs hP _ hS => ?_)
      have hP : va_P (dC, dI) vwCl (mw ar cy (up2 st10 0 34 r15) sl11) H := hP
      obtain ⟨st16, hP, hG⟩ : ∃ y, va_P (dC, dI) vwCl (mw ar cy y sl11) H ∧ MG [1, 2, 3, 4, 5, 6, 7, 8, 9, 10, 11, 12, 13, 14, 15, 16, 17, 19, 20, 21, 22, 23] st y := ⟨up2 st10 0 34 r15, hP, hG.up (rz (by decide : mr 0 34 = 0)) (pn (by decide : pcl 0 34 = 0) (by decide))⟩
      refine lv_aload_n hx hb dX12_rounds_93 rfl (lv_at hl 2 rfl) ?_
      refine lv_aload_n hx hb dX12_rounds_94 rfl (lv_at hl 2 rfl) ?_
      refine va_get (D := (dC, dI)) (ci := 11) (v := .ref (ar 2)) (C := RX12) (T := TX12) (N := 47) hx hb hts ii_X12_rounds hown hK hP 0 rfl rfl 14 (by decide) (hts _ mm_X12_rounds_3) (fun _ hh => hh) rfl dX12_rounds_95 ?_
      refine lv_iconst (v := 1) hx hb dX12_rounds_98 (by decide) ?_
      refine va_iald hx hb hK hP 2 1 rfl rfl (i := 1) (zz_in (by decide)) dX12_rounds_99 ?_
      obtain ⟨n17, hn17, en17⟩ := hG.1.at (r := 2) (k := 1) (by decide : mr 2 1 = 9) (by decide)
      refine zz_top (v := nI n17) (by exact en17) ?_
      clear en17
      refine va_put (D := (dC, dI)) (ci := 11) (v := .int (nI n17)) (ty := .int) (C := RX12) (T := TX12) (N := 47) hx hb hts ii_X12_rounds tyX12 tyX12_ok nmX12 hown hK hP (mD hN _ _ _ _) hS 0 rfl rfl 33 (by decide) (hts _ mm_X12_rounds_5) (fun _ hh => hh) rfl (by decide +kernel) rfl rfl (Nat.le_of_ble_eq_true rfl) dX12_rounds_100 (fun H locs hP _ hS => ?_)
      have hP : va_P (dC, dI) vwCl (mw ar cy (up2 st16 0 33 (nI n17)) sl11) H := hP
      obtain ⟨st18, hP, hG⟩ : ∃ y, va_P (dC, dI) vwCl (mw ar cy y sl11) H ∧ MG [1, 2, 3, 4, 5, 6, 7, 8, 9, 10, 11, 12, 13, 14, 15, 16, 17, 19, 20, 21, 22, 23] st y := ⟨up2 st16 0 33 (nI n17), hP, hG.up (rn (n := n17) (by decide : mr 0 33 = 9) (by omega)) (pn (by decide : pcl 0 33 = 0) (by decide))⟩
      refine lv_aload_n hx hb dX12_rounds_103 rfl (lv_at hl 2 rfl) ?_
      refine lv_iconst (v := 1) hx hb dX12_rounds_104 (by decide) ?_
      refine va_put (D := (dC, dI)) (ci := 11) (v := .int 1) (ty := .boolean) (C := RX12) (T := TX12) (N := 47) hx hb hts ii_X12_rounds tyX12 tyX12_ok nmX12 hown hK hP (mD hN _ _ _ _) hS 0 rfl rfl 35 (by decide) (hts _ mm_X12_rounds_6) (fun _ hh => hh) rfl (by decide +kernel) rfl rfl (Nat.le_of_ble_eq_true rfl) dX12_rounds_105 (fun H locs hP _ hS => ?_)
      have hP : va_P (dC, dI) vwCl (mw ar cy (up2 st18 0 35 1) sl11) H := hP
      obtain ⟨st19, hP, hG⟩ : ∃ y, va_P (dC, dI) vwCl (mw ar cy y sl11) H ∧ MG [1, 2, 3, 4, 5, 6, 7, 8, 9, 10, 11, 12, 13, 14, 15, 16, 17, 19, 20, 21, 22, 23] st y := ⟨up2 st18 0 35 1, hP, hG.up (rz (by decide : mr 0 35 = 0)) (pn (by decide : pcl 0 35 = 0) (by decide))⟩
      refine lv_iconst (v := 0) hx hb dX12_rounds_108 (by decide) ?_
      refine lv_istore_n (lv' := [(3, .int 0), (2, .int z8), (1, .int (nI k9)), (0, .ref (ar 0))]) hx hb dX12_rounds_109 rfl hl (by decide) rfl (fun ls hl => ?_)
      refine zz_wf (fun n stk H locs ls => ∃ k20 : Nat, ∃ st21 : Nat → Nat → Int32, ∃ sl22 : Nat → Nat → Int64, n = 9 - k20 ∧ 0 ≤ k20 ∧ k20 < 9 ∧ va_P (dC, dI) vwCl (mw ar cy st21 sl22) H ∧ MG [1, 2, 3, 4, 5, 6, 7, 8, 9, 10, 11, 12, 13, 14, 15, 16, 17, 19, 20, 21, 22, 23] st st21 ∧ LQ [7, 9] sl sl22 ∧ va_S (MA ar s.heap.size) s.heap H locs ∧ lv_has ls 4 [(3, .int (nI k20)), (2, .int z8), (1, .int (nI k9)), (0, .ref (ar 0))] ∧ stk = []) ?_ (9 - 0) _ _ _ _ ⟨0, st19, sl11, rfl, by omega, by omega, hP, hG, hL, hS, lv_sub hl [0, 1, 2, 3] rfl, rfl⟩
      rintro nn stk H locs ls ⟨k20, st21, sl22, hm24, hv23_0, hv24_1, hP, hG, hL, hS, hl, rfl⟩ ih25
      refine lv_iload_n hx hb dX12_rounds_110 rfl (lv_at hl 0 rfl) ?_
      refine lv_bipush (v := 8) hx hb dX12_rounds_111 (by decide) ?_
      refine lv_icmp_ge (tgt := 152) hx hb dX12_rounds_113 (by decide) (fun c3 => ?_) (fun c3 => ?_)
      · have c3 : 8 ≤ k20 := (nI_leI (a := 8) (b := k20) (by omega) (by omega)).mp c3
        refine lv_iload_n hx hb dX12_rounds_152 rfl (lv_at hl 2 rfl) ?_
        exact W.iret (v := (nI k9)) hx hb hr (fun t ht hW => ⟨⟨(nI k9), (st21, sl22), rfl, ⟨hG, hL, trivial⟩, mB.of ht hP⟩, hS.F ht⟩) hS.2.2 dX12_rounds_153
      · have c3 : ¬ 8 ≤ k20 := fun hh => c3 ((nI_leI (a := 8) (b := k20) (by omega) (by omega)).mpr hh)
        refine lv_aload_n hx hb dX12_rounds_116 rfl (lv_at hl 3 rfl) ?_
        refine va_get (D := (dC, dI)) (ci := 11) (v := .ref (ar 11)) (C := RX12) (T := TX12) (N := 47) hx hb hts ii_X12_rounds hown hK hP 0 rfl rfl 31 (by decide) (hts _ mm_X12_rounds_7) (fun _ hh => hh) rfl dX12_rounds_117 ?_
        refine lv_iload_n hx hb dX12_rounds_120 rfl (lv_at hl 0 rfl) ?_
        refine lv_aload_n hx hb dX12_rounds_121 rfl (lv_at hl 3 rfl) ?_
        refine va_get (D := (dC, dI)) (ci := 11) (v := .ref (ar 2)) (C := RX12) (T := TX12) (N := 47) hx hb hts ii_X12_rounds hown hK hP 0 rfl rfl 14 (by decide) (hts _ mm_X12_rounds_3) (fun _ hh => hh) rfl dX12_rounds_122 ?_
        refine lv_bipush (v := 71) hx hb dX12_rounds_125 (by decide) ?_
        refine lv_iload_n hx hb dX12_rounds_127 rfl (lv_at hl 0 rfl) ?_
        refine lv_iadd hx hb dX12_rounds_128 ?_
        refine zz_top (v := nI (71 + k20)) (nI_add 71 k20) ?_
        refine va_iald hx hb hK hP 2 1 rfl rfl (i := (nI (71 + k20))) (vp_in_nI (by omega) (by decide)) dX12_rounds_129 ?_
        obtain ⟨n26, hn26, en26⟩ := hG.1.at (r := 2) (k := (71 + k20)) (mr_2_71_79 (71 + k20) (by omega) (by omega)) (by decide)
        refine zz_top (v := nI n26) (by rw [nI_clamp (by omega)]; exact en26) ?_
        clear en26
        refine va_iast hx hb hK hP (mD hN _ _ _ _) hS 11 10 rfl rfl (i := (nI k20)) (vp_in_nI (by omega) (by decide)) dX12_rounds_130 (fun H locs hP _ hS => ?_)
        rw [nI_clamp (by omega)] at hP
        have hP : va_P (dC, dI) vwCl (mw ar cy (up2 st21 11 k20 (nI n26)) sl22) H := hP
        obtain ⟨st27, hP, hG⟩ : ∃ y, va_P (dC, dI) vwCl (mw ar cy y sl22) H ∧ MG [1, 2, 3, 4, 5, 6, 7, 8, 9, 10, 11, 12, 13, 14, 15, 16, 17, 19, 20, 21, 22, 23] st y := ⟨up2 st21 11 k20 (nI n26), hP, hG.up (rz (mr_11_0_8 k20 (by omega) (by omega))) (pn (pcl_11_0_8 k20 (by omega) (by omega)) (by decide))⟩
        refine lv_aload_n hx hb dX12_rounds_131 rfl (lv_at hl 3 rfl) ?_
        refine va_get (D := (dC, dI)) (ci := 11) (v := .ref (ar 2)) (C := RX12) (T := TX12) (N := 47) hx hb hts ii_X12_rounds hown hK hP 0 rfl rfl 14 (by decide) (hts _ mm_X12_rounds_3) (fun _ hh => hh) rfl dX12_rounds_132 ?_
        refine lv_bipush (v := 71) hx hb dX12_rounds_135 (by decide) ?_
        refine lv_iload_n hx hb dX12_rounds_137 rfl (lv_at hl 0 rfl) ?_
        refine lv_iadd hx hb dX12_rounds_138 ?_
        refine zz_top (v := nI (71 + k20)) (nI_add 71 k20) ?_
        refine lv_aload_n hx hb dX12_rounds_139 rfl (lv_at hl 3 rfl) ?_
        refine va_get (D := (dC, dI)) (ci := 11) (v := .ref (ar 12)) (C := RX12) (T := TX12) (N := 47) hx hb hts ii_X12_rounds hown hK hP 0 rfl rfl 32 (by decide) (hts _ mm_X12_rounds_2) (fun _ hh => hh) rfl dX12_rounds_140 ?_
        refine lv_iload_n hx hb dX12_rounds_143 rfl (lv_at hl 0 rfl) ?_
        refine va_iald hx hb hK hP 12 11 rfl rfl (i := (nI k20)) (vp_in_nI (by omega) (by decide)) dX12_rounds_144 ?_
        obtain ⟨n28, hn28, en28⟩ := hG.1.at (r := 12) (k := k20) (mr_12_0_8 k20 (by omega) (by omega)) (by decide)
        refine zz_top (v := nI n28) (by rw [nI_clamp (by omega)]; exact en28) ?_
        clear en28
        refine va_iast hx hb hK hP (mD hN _ _ _ _) hS 2 1 rfl rfl (i := (nI (71 + k20))) (vp_in_nI (by omega) (by decide)) dX12_rounds_145 (fun H locs hP _ hS => ?_)
        rw [nI_clamp (by omega)] at hP
        have hP : va_P (dC, dI) vwCl (mw ar cy (up2 st27 2 (71 + k20) (nI n28)) sl22) H := hP
        obtain ⟨st29, hP, hG⟩ : ∃ y, va_P (dC, dI) vwCl (mw ar cy y sl22) H ∧ MG [1, 2, 3, 4, 5, 6, 7, 8, 9, 10, 11, 12, 13, 14, 15, 16, 17, 19, 20, 21, 22, 23] st y := ⟨up2 st27 2 (71 + k20) (nI n28), hP, hG.up (rn (n := n28) (mr_2_71_79 (71 + k20) (by omega) (by omega)) (by omega)) (pn (pcl_2_71_79 (71 + k20) (by omega) (by omega)) (by decide))⟩
        refine lv_iinc (v := (nI (k20 + 1))) (lv' := [(3, .int (nI (k20 + 1))), (2, .int z8), (1, .int (nI k9)), (0, .ref (ar 0))]) hx hb dX12_rounds_146 hl (k := 0) rfl (nI_add k20 1) (by decide) rfl (fun ls hl => ?_)
        refine lv_goto (tgt := 110) hx hb dX12_rounds_149 (by decide) ?_
        exact ih25 (9 - (k20 + 1)) _ _ _ _ (by omega) ⟨(k20 + 1), st29, sl22, rfl, by omega, by omega, hP, hG, hL, hS, lv_sub hl [0, 1, 2, 3] rfl, rfl⟩
    · refine lv_iload_n hx hb dX12_rounds_42 rfl (lv_at hl 1 rfl) ?_
      refine lv_bipush (v := 30) hx hb dX12_rounds_43 (by decide) ?_
      refine lv_icmp_ge (tgt := 84) hx hb dX12_rounds_45 (by decide) (fun c4 => ?_) (fun c4 => ?_)
      · have c4 : 30 ≤ k9 := (nI_leI (a := 30) (b := k9) (by omega) (by omega)).mp c4
        refine lv_aload_n hx hb dX12_rounds_84 rfl (lv_at hl 2 rfl) ?_
        refine lv_aload_n hx hb dX12_rounds_85 rfl (lv_at hl 2 rfl) ?_
        refine lv_iconst (v := 1) hx hb dX12_rounds_86 (by decide) ?_
        refine va_calli (va_runV (As := [.int 1]) (rest := [.ref (ar 0)]) ⟨hx, hb, hml, hown, hts⟩ (m_goodAll l dC dI ar cy _ hN st10 sl11 1  hG.1) (cwV 1 hts gX12_rounds_X12_goodAll rfl rfl rfl (by decide +kernel) ⟨Nat.le_of_ble_eq_true rfl, Nat.le_of_ble_eq_true rfl⟩) ⟨fun a U g mk q => ⟨q.1, mPre.blind q.2⟩, va_recv hK hP (ci := 11) (q0 := 0) rfl rfl, fun U hU hW => ⟨rfl, mPre.of hP hK hU hW⟩⟩ rfl rfl hl.1 rfl (lv_room (Nat.le_of_ble_eq_true rfl)) dX12_rounds_87 ⟨Nat.le_of_ble_eq_true rfl, Nat.le_of_ble_eq_true rfl⟩) hS (fun q _ h => MA.le hS.1 q h) (MA.le hS.1) (fun r30 x t H locs ht hvm hw hB _ _ hS => ?_)
        have hP := mB.at ht hB
        clear hB ht hvm
        obtain ⟨rfl, hw⟩ := hw
        have hP : va_P (dC, dI) vwCl (mw ar cy st10 sl11) _ := hP
        clear hw
        refine va_put (D := (dC, dI)) (ci := 11) (v := .int r30) (ty := .int) (C := RX12) (T := TX12) (N := 47) hx hb hts ii_X12_rounds tyX12 tyX12_ok nmX12 hown hK hP (mD hN _ _ _ _) hS 0 rfl rfl 34 (by decide) (hts _ mm_X12_rounds_4) (fun _ hh => hh) rfl (by decide +kernel) rfl rfl (Nat.le_of_ble_eq_true rfl) dX12_rounds_90 (fun H locs hP _ hS => ?_)
        have hP : va_P (dC, dI) vwCl (mw ar cy (up2 st10 0 34 r30) sl11) H := hP
        obtain ⟨st31, hP, hG⟩ : ∃ y, va_P (dC, dI) vwCl (mw ar cy y sl11) H ∧ MG [1, 2, 3, 4, 5, 6, 7, 8, 9, 10, 11, 12, 13, 14, 15, 16, 17, 19, 20, 21, 22, 23] st y := ⟨up2 st10 0 34 r30, hP, hG.up (rz (by decide : mr 0 34 = 0)) (pn (by decide : pcl 0 34 = 0) (by decide))⟩
        refine lv_aload_n hx hb dX12_rounds_93 rfl (lv_at hl 2 rfl) ?_
        refine lv_aload_n hx hb dX12_rounds_94 rfl (lv_at hl 2 rfl) ?_
        refine va_get (D := (dC, dI)) (ci := 11) (v := .ref (ar 2)) (C := RX12) (T := TX12) (N := 47) hx hb hts ii_X12_rounds hown hK hP 0 rfl rfl 14 (by decide) (hts _ mm_X12_rounds_3) (fun _ hh => hh) rfl dX12_rounds_95 ?_
        refine lv_iconst (v := 1) hx hb dX12_rounds_98 (by decide) ?_
        refine va_iald hx hb hK hP 2 1 rfl rfl (i := 1) (zz_in (by decide)) dX12_rounds_99 ?_
        obtain ⟨n32, hn32, en32⟩ := hG.1.at (r := 2) (k := 1) (by decide : mr 2 1 = 9) (by decide)
        refine zz_top (v := nI n32) (by exact en32) ?_
        clear en32
        refine va_put (D := (dC, dI)) (ci := 11) (v := .int (nI n32)) (ty := .int) (C := RX12) (T := TX12) (N := 47) hx hb hts ii_X12_rounds tyX12 tyX12_ok nmX12 hown hK hP (mD hN _ _ _ _) hS 0 rfl rfl 33 (by decide) (hts _ mm_X12_rounds_5) (fun _ hh => hh) rfl (by decide +kernel) rfl rfl (Nat.le_of_ble_eq_true rfl) dX12_rounds_100 (fun H locs hP _ hS => ?_)
        have hP : va_P (dC, dI) vwCl (mw ar cy (up2 st31 0 33 (nI n32)) sl11) H := hP
        obtain ⟨st33, hP, hG⟩ : ∃ y, va_P (dC, dI) vwCl (mw ar cy y sl11) H ∧ MG [1, 2, 3, 4, 5, 6, 7, 8, 9, 10, 11, 12, 13, 14, 15, 16, 17, 19, 20, 21, 22, 23] st y := ⟨up2 st31 0 33 (nI n32), hP, hG.up (rn (n := n32) (by decide : mr 0 33 = 9) (by omega)) (pn (by decide : pcl 0 33 = 0) (by decide))⟩
        refine lv_aload_n hx hb dX12_rounds_103 rfl (lv_at hl 2 rfl) ?_
        refine lv_iconst (v := 1) hx hb dX12_rounds_104 (by decide) ?_
        refine va_put (D := (dC, dI)) (ci := 11) (v := .int 1) (ty := .boolean) (C := RX12) (T := TX12) (N := 47) hx hb hts ii_X12_rounds tyX12 tyX12_ok nmX12 hown hK hP (mD hN _ _ _ _) hS 0 rfl rfl 35 (by decide) (hts _ mm_X12_rounds_6) (fun _ hh => hh) rfl (by decide +kernel) rfl rfl (Nat.le_of_ble_eq_true rfl) dX12_rounds_105 (fun H locs hP _ hS => ?_)
        have hP : va_P (dC, dI) vwCl (mw ar cy (up2 st33 0 35 1) sl11) H := hP
        obtain ⟨st34, hP, hG⟩ : ∃ y, va_P (dC, dI) vwCl (mw ar cy y sl11) H ∧ MG [1, 2, 3, 4, 5, 6, 7, 8, 9, 10, 11, 12, 13, 14, 15, 16, 17, 19, 20, 21, 22, 23] st y := ⟨up2 st33 0 35 1, hP, hG.up (rz (by decide : mr 0 35 = 0)) (pn (by decide : pcl 0 35 = 0) (by decide))⟩
        refine lv_iconst (v := 0) hx hb dX12_rounds_108 (by decide) ?_
        refine lv_istore_n (lv' := [(3, .int 0), (2, .int z8), (1, .int (nI k9)), (0, .ref (ar 0))]) hx hb dX12_rounds_109 rfl hl (by decide) rfl (fun ls hl => ?_)
        refine zz_wf (fun n stk H locs ls => ∃ k35 : Nat, ∃ st36 : Nat → Nat → Int32, ∃ sl37 : Nat → Nat → Int64, n = 9 - k35 ∧ 0 ≤ k35 ∧ k35 < 9 ∧ va_P (dC, dI) vwCl (mw ar cy st36 sl37) H ∧ MG [1, 2, 3, 4, 5, 6, 7, 8, 9, 10, 11, 12, 13, 14, 15, 16, 17, 19, 20, 21, 22, 23] st st36 ∧ LQ [7, 9] sl sl37 ∧ va_S (MA ar s.heap.size) s.heap H locs ∧ lv_has ls 4 [(3, .int (nI k35)), (2, .int z8), (1, .int (nI k9)), (0, .ref (ar 0))] ∧ stk = []) ?_ (9 - 0) _ _ _ _ ⟨0, st34, sl11, rfl, by omega, by omega, hP, hG, hL, hS, lv_sub hl [0, 1, 2, 3] rfl, rfl⟩
        rintro nn stk H locs ls ⟨k35, st36, sl37, hm39, hv38_0, hv39_1, hP, hG, hL, hS, hl, rfl⟩ ih40
        refine lv_iload_n hx hb dX12_rounds_110 rfl (lv_at hl 0 rfl) ?_
        refine lv_bipush (v := 8) hx hb dX12_rounds_111 (by decide) ?_
        refine lv_icmp_ge (tgt := 152) hx hb dX12_rounds_113 (by decide) (fun c5 => ?_) (fun c5 => ?_)
        · have c5 : 8 ≤ k35 := (nI_leI (a := 8) (b := k35) (by omega) (by omega)).mp c5
          refine lv_iload_n hx hb dX12_rounds_152 rfl (lv_at hl 2 rfl) ?_
          exact W.iret (v := (nI k9)) hx hb hr (fun t ht hW => ⟨⟨(nI k9), (st36, sl37), rfl, ⟨hG, hL, trivial⟩, mB.of ht hP⟩, hS.F ht⟩) hS.2.2 dX12_rounds_153
        · have c5 : ¬ 8 ≤ k35 := fun hh => c5 ((nI_leI (a := 8) (b := k35) (by omega) (by omega)).mpr hh)
          refine lv_aload_n hx hb dX12_rounds_116 rfl (lv_at hl 3 rfl) ?_
          refine va_get (D := (dC, dI)) (ci := 11) (v := .ref (ar 11)) (C := RX12) (T := TX12) (N := 47) hx hb hts ii_X12_rounds hown hK hP 0 rfl rfl 31 (by decide) (hts _ mm_X12_rounds_7) (fun _ hh => hh) rfl dX12_rounds_117 ?_
          refine lv_iload_n hx hb dX12_rounds_120 rfl (lv_at hl 0 rfl) ?_
          refine lv_aload_n hx hb dX12_rounds_121 rfl (lv_at hl 3 rfl) ?_
          refine va_get (D := (dC, dI)) (ci := 11) (v := .ref (ar 2)) (C := RX12) (T := TX12) (N := 47) hx hb hts ii_X12_rounds hown hK hP 0 rfl rfl 14 (by decide) (hts _ mm_X12_rounds_3) (fun _ hh => hh) rfl dX12_rounds_122 ?_
          refine lv_bipush (v := 71) hx hb dX12_rounds_125 (by decide) ?_
          refine lv_iload_n hx hb dX12_rounds_127 rfl (lv_at hl 0 rfl) ?_
          refine lv_iadd hx hb dX12_rounds_128 ?_
          refine zz_top (v := nI (71 + k35)) (nI_add 71 k35) ?_
          refine va_iald hx hb hK hP 2 1 rfl rfl (i := (nI (71 + k35))) (vp_in_nI (by omega) (by decide)) dX12_rounds_129 ?_
          obtain ⟨n41, hn41, en41⟩ := hG.1.at (r := 2) (k := (71 + k35)) (mr_2_71_79 (71 + k35) (by omega) (by omega)) (by decide)
          refine zz_top (v := nI n41) (by rw [nI_clamp (by omega)]; exact en41) ?_
          clear en41
          refine va_iast hx hb hK hP (mD hN _ _ _ _) hS 11 10 rfl rfl (i := (nI k35)) (vp_in_nI (by omega) (by decide)) dX12_rounds_130 (fun H locs hP _ hS => ?_)
          rw [nI_clamp (by omega)] at hP
          have hP : va_P (dC, dI) vwCl (mw ar cy (up2 st36 11 k35 (nI n41)) sl37) H := hP
          obtain ⟨st42, hP, hG⟩ : ∃ y, va_P (dC, dI) vwCl (mw ar cy y sl37) H ∧ MG [1, 2, 3, 4, 5, 6, 7, 8, 9, 10, 11, 12, 13, 14, 15, 16, 17, 19, 20, 21, 22, 23] st y := ⟨up2 st36 11 k35 (nI n41), hP, hG.up (rz (mr_11_0_8 k35 (by omega) (by omega))) (pn (pcl_11_0_8 k35 (by omega) (by omega)) (by decide))⟩
          refine lv_aload_n hx hb dX12_rounds_131 rfl (lv_at hl 3 rfl) ?_
          refine va_get (D := (dC, dI)) (ci := 11) (v := .ref (ar 2)) (C := RX12) (T := TX12) (N := 47) hx hb hts ii_X12_rounds hown hK hP 0 rfl rfl 14 (by decide) (hts _ mm_X12_rounds_3) (fun _ hh => hh) rfl dX12_rounds_132 ?_
          refine lv_bipush (v := 71) hx hb dX12_rounds_135 (by decide) ?_
          refine lv_iload_n hx hb dX12_rounds_137 rfl (lv_at hl 0 rfl) ?_
          refine lv_iadd hx hb dX12_rounds_138 ?_
          refine zz_top (v := nI (71 + k35)) (nI_add 71 k35) ?_
          refine lv_aload_n hx hb dX12_rounds_139 rfl (lv_at hl 3 rfl) ?_
          refine va_get (D := (dC, dI)) (ci := 11) (v := .ref (ar 12)) (C := RX12) (T := TX12) (N := 47) hx hb hts ii_X12_rounds hown hK hP 0 rfl rfl 32 (by decide) (hts _ mm_X12_rounds_2) (fun _ hh => hh) rfl dX12_rounds_140 ?_
          refine lv_iload_n hx hb dX12_rounds_143 rfl (lv_at hl 0 rfl) ?_
          refine va_iald hx hb hK hP 12 11 rfl rfl (i := (nI k35)) (vp_in_nI (by omega) (by decide)) dX12_rounds_144 ?_
          obtain ⟨n43, hn43, en43⟩ := hG.1.at (r := 12) (k := k35) (mr_12_0_8 k35 (by omega) (by omega)) (by decide)
          refine zz_top (v := nI n43) (by rw [nI_clamp (by omega)]; exact en43) ?_
          clear en43
          refine va_iast hx hb hK hP (mD hN _ _ _ _) hS 2 1 rfl rfl (i := (nI (71 + k35))) (vp_in_nI (by omega) (by decide)) dX12_rounds_145 (fun H locs hP _ hS => ?_)
          rw [nI_clamp (by omega)] at hP
          have hP : va_P (dC, dI) vwCl (mw ar cy (up2 st42 2 (71 + k35) (nI n43)) sl37) H := hP
          obtain ⟨st44, hP, hG⟩ : ∃ y, va_P (dC, dI) vwCl (mw ar cy y sl37) H ∧ MG [1, 2, 3, 4, 5, 6, 7, 8, 9, 10, 11, 12, 13, 14, 15, 16, 17, 19, 20, 21, 22, 23] st y := ⟨up2 st42 2 (71 + k35) (nI n43), hP, hG.up (rn (n := n43) (mr_2_71_79 (71 + k35) (by omega) (by omega)) (by omega)) (pn (pcl_2_71_79 (71 + k35) (by omega) (by omega)) (by decide))⟩
          refine lv_iinc (v := (nI (k35 + 1))) (lv' := [(3, .int (nI (k35 + 1))), (2, .int z8), (1, .int (nI k9)), (0, .ref (ar 0))]) hx hb dX12_rounds_146 hl (k := 0) rfl (nI_add k35 1) (by decide) rfl (fun ls hl => ?_)
          refine lv_goto (tgt := 110) hx hb dX12_rounds_149 (by decide) ?_
          exact ih40 (9 - (k35 + 1)) _ _ _ _ (by omega) ⟨(k35 + 1), st44, sl37, rfl, by omega, by omega, hP, hG, hL, hS, lv_sub hl [0, 1, 2, 3] rfl, rfl⟩
      · have c4 : ¬ 30 ≤ k9 := fun hh => c4 ((nI_leI (a := 30) (b := k9) (by omega) (by omega)).mpr hh)
        refine lv_iconst (v := 0) hx hb dX12_rounds_48 (by decide) ?_
        refine lv_istore_n (lv' := [(2, .int 0), (1, .int (nI k9)), (0, .ref (ar 0))]) hx hb dX12_rounds_49 rfl hl (by decide) rfl (fun ls hl => ?_)
        refine lv_iconst (v := 0) hx hb dX12_rounds_50 (by decide) ?_
        refine lv_istore_n (lv' := [(3, .int 0), (2, .int 0), (1, .int (nI k9)), (0, .ref (ar 0))]) hx hb dX12_rounds_51 rfl hl (by decide) rfl (fun ls hl => ?_)
        refine zz_wf (fun n stk H locs ls => ∃ k45 : Nat, ∃ z46 : Int32, ∃ st47 : Nat → Nat → Int32, ∃ sl48 : Nat → Nat → Int64, n = 9 - k45 ∧ 0 ≤ k45 ∧ k45 < 9 ∧ va_P (dC, dI) vwCl (mw ar cy st47 sl48) H ∧ MG [1, 2, 3, 4, 5, 6, 7, 8, 9, 10, 11, 12, 13, 14, 15, 16, 17, 19, 20, 21, 22, 23] st st47 ∧ LQ [7, 9] sl sl48 ∧ va_S (MA ar s.heap.size) s.heap H locs ∧ lv_has ls 4 [(3, .int (nI k45)), (2, .int z46), (1, .int (nI k9)), (0, .ref (ar 0))] ∧ stk = []) ?_ (9 - 0) _ _ _ _ ⟨0, 0, st10, sl11, rfl, by omega, by omega, hP, hG, hL, hS, lv_sub hl [0, 1, 2, 3] rfl, rfl⟩
        rintro nn stk H locs ls ⟨k45, z46, st47, sl48, hm50, hv49_0, hv50_1, hP, hG, hL, hS, hl, rfl⟩ ih51
        refine lv_iload_n hx hb dX12_rounds_52 rfl (lv_at hl 0 rfl) ?_
        refine lv_aload_n hx hb dX12_rounds_53 rfl (lv_at hl 3 rfl) ?_
        refine va_get (D := (dC, dI)) (ci := 11) (v := .ref (ar 2)) (C := RX12) (T := TX12) (N := 47) hx hb hts ii_X12_rounds hown hK hP 0 rfl rfl 14 (by decide) (hts _ mm_X12_rounds_3) (fun _ hh => hh) rfl dX12_rounds_54 ?_
        refine lv_iconst (v := 1) hx hb dX12_rounds_57 (by decide) ?_
        refine va_iald hx hb hK hP 2 1 rfl rfl (i := 1) (zz_in (by decide)) dX12_rounds_58 ?_
        obtain ⟨n52, hn52, en52⟩ := hG.1.at (r := 2) (k := 1) (by decide : mr 2 1 = 9) (by decide)
        refine zz_top (v := nI n52) (by exact en52) ?_
        clear en52
        refine lv_icmp_ge (tgt := 78) hx hb dX12_rounds_59 (by decide) (fun c6 => ?_) (fun c6 => ?_)
        · have c6 : n52 ≤ k45 := (nI_leI (a := n52) (b := k45) (by omega) (by omega)).mp c6
          refine lv_iinc (v := (nI (k9 + 1))) (lv' := [(1, .int (nI (k9 + 1))), (3, .int (nI k45)), (2, .int z46), (0, .ref (ar 0))]) hx hb dX12_rounds_78 hl (k := 2) rfl (nI_add k9 1) (by decide) rfl (fun ls hl => ?_)
          refine lv_goto (tgt := 38) hx hb dX12_rounds_81 (by decide) ?_
          exact ih14 (31 - (k9 + 1)) _ _ _ _ (by omega) ⟨z46, (k9 + 1), st47, sl48, rfl, by omega, by omega, hP, hG, hL, hS, lv_sub hl [2, 0, 3] rfl, rfl⟩
        · have c6 : ¬ n52 ≤ k45 := fun hh => c6 ((nI_leI (a := n52) (b := k45) (by omega) (by omega)).mpr hh)
          refine lv_aload_n hx hb dX12_rounds_62 rfl (lv_at hl 3 rfl) ?_
          refine lv_iload_n hx hb dX12_rounds_63 rfl (lv_at hl 0 rfl) ?_
          refine va_calli (va_runV (As := [.int (nI k45)]) (rest := []) ⟨hx, hb, hml, hown, hts⟩ (m_goesElsewhere l dC dI ar cy _ hN st47 sl48 k45 (by omega) hG.1) (cwV 1 hts gX12_rounds_X12_goesElsewhere rfl rfl rfl (by decide +kernel) ⟨Nat.le_of_ble_eq_true rfl, Nat.le_of_ble_eq_true rfl⟩) ⟨fun a U g mk q => ⟨q.1, mPre.blind q.2⟩, va_recv hK hP (ci := 11) (q0 := 0) rfl rfl, fun U hU hW => ⟨rfl, mPre.of hP hK hU hW⟩⟩ rfl rfl hl.1 rfl (lv_room (Nat.le_of_ble_eq_true rfl)) dX12_rounds_64 ⟨Nat.le_of_ble_eq_true rfl, Nat.le_of_ble_eq_true rfl⟩) hS (fun q _ h => MA.le hS.1 q h) (MA.le hS.1) (fun r53 x t H locs ht hvm hw hB _ _ hS => ?_)
          have hP := mB.at ht hB
          clear hB ht hvm
          obtain ⟨st54, sl55⟩ := x
          obtain ⟨hG2, hL2, hw⟩ := hw
          have hL : LQ [7, 9] sl sl55 := hL.tr hL2 (by decide)
          clear hL2
          have hP : va_P (dC, dI) vwCl (mw ar cy st54 sl55) _ := hP
          have hG : MG [1, 2, 3, 4, 5, 6, 7, 8, 9, 10, 11, 12, 13, 14, 15, 16, 17, 19, 20, 21, 22, 23] st st54 := hG.tr hG2 (by decide)
          clear hG2
          rcases hw with rfl | rfl
          · refine lv_if_eq (tgt := 72) hx hb dX12_rounds_67 (by decide) (fun cc => absurd cc (by decide)) (fun _ => ?_)
            refine lv_iconst (v := 1) hx hb dX12_rounds_70 (by decide) ?_
            refine lv_istore_n (lv' := [(2, .int 1), (3, .int (nI k45)), (1, .int (nI k9)), (0, .ref (ar 0))]) hx hb dX12_rounds_71 rfl hl (by decide) rfl (fun ls hl => ?_)
            refine lv_iinc (v := (nI (k45 + 1))) (lv' := [(3, .int (nI (k45 + 1))), (2, .int 1), (1, .int (nI k9)), (0, .ref (ar 0))]) hx hb dX12_rounds_72 hl (k := 1) rfl (nI_add k45 1) (by decide) rfl (fun ls hl => ?_)
            refine lv_goto (tgt := 52) hx hb dX12_rounds_75 (by decide) ?_
            exact ih51 (9 - (k45 + 1)) _ _ _ _ (by omega) ⟨(k45 + 1), 1, st54, sl55, rfl, by omega, by omega, hP, hG, hL, hS, lv_sub hl [0, 1, 2, 3] rfl, rfl⟩
          · refine lv_if_eq (tgt := 72) hx hb dX12_rounds_67 (by decide) (fun _ => ?_) (fun cc => absurd (by decide) cc)
            refine lv_iinc (v := (nI (k45 + 1))) (lv' := [(3, .int (nI (k45 + 1))), (2, .int z46), (1, .int (nI k9)), (0, .ref (ar 0))]) hx hb dX12_rounds_72 hl (k := 0) rfl (nI_add k45 1) (by decide) rfl (fun ls hl => ?_)
            refine lv_goto (tgt := 52) hx hb dX12_rounds_75 (by decide) ?_
            exact ih51 (9 - (k45 + 1)) _ _ _ _ (by omega) ⟨(k45 + 1), z46, st54, sl55, rfl, by omega, by omega, hP, hG, hL, hS, lv_sub hl [0, 1, 2, 3] rfl, rfl⟩
  · have c1 : ¬ 8 ≤ k2 := fun hh => c1 ((nI_leI (a := 8) (b := k2) (by omega) (by omega)).mpr hh)
    refine lv_aload_n hx hb dX12_rounds_13 rfl (lv_at hl 1 rfl) ?_
    refine va_get (D := (dC, dI)) (ci := 11) (v := .ref (ar 12)) (C := RX12) (T := TX12) (N := 47) hx hb hts ii_X12_rounds hown hK hP 0 rfl rfl 32 (by decide) (hts _ mm_X12_rounds_2) (fun _ hh => hh) rfl dX12_rounds_14 ?_
    refine lv_iload_n hx hb dX12_rounds_17 rfl (lv_at hl 0 rfl) ?_
    refine lv_aload_n hx hb dX12_rounds_18 rfl (lv_at hl 1 rfl) ?_
    refine va_get (D := (dC, dI)) (ci := 11) (v := .ref (ar 2)) (C := RX12) (T := TX12) (N := 47) hx hb hts ii_X12_rounds hown hK hP 0 rfl rfl 14 (by decide) (hts _ mm_X12_rounds_3) (fun _ hh => hh) rfl dX12_rounds_19 ?_
    refine lv_bipush (v := 71) hx hb dX12_rounds_22 (by decide) ?_
    refine lv_iload_n hx hb dX12_rounds_24 rfl (lv_at hl 0 rfl) ?_
    refine lv_iadd hx hb dX12_rounds_25 ?_
    refine zz_top (v := nI (71 + k2)) (nI_add 71 k2) ?_
    refine va_iald hx hb hK hP 2 1 rfl rfl (i := (nI (71 + k2))) (vp_in_nI (by omega) (by decide)) dX12_rounds_26 ?_
    obtain ⟨n56, hn56, en56⟩ := hG.1.at (r := 2) (k := (71 + k2)) (mr_2_71_79 (71 + k2) (by omega) (by omega)) (by decide)
    refine zz_top (v := nI n56) (by rw [nI_clamp (by omega)]; exact en56) ?_
    clear en56
    refine va_iast hx hb hK hP (mD hN _ _ _ _) hS 12 11 rfl rfl (i := (nI k2)) (vp_in_nI (by omega) (by decide)) dX12_rounds_27 (fun H locs hP _ hS => ?_)
    rw [nI_clamp (by omega)] at hP
    have hP : va_P (dC, dI) vwCl (mw ar cy (up2 st3 12 k2 (nI n56)) sl4) H := hP
    obtain ⟨st57, hP, hG⟩ : ∃ y, va_P (dC, dI) vwCl (mw ar cy y sl4) H ∧ MG [1, 2, 3, 4, 5, 6, 7, 8, 9, 10, 11, 12, 13, 14, 15, 16, 17, 19, 20, 21, 22, 23] st y := ⟨up2 st3 12 k2 (nI n56), hP, hG.up (rn (n := n56) (mr_12_0_8 k2 (by omega) (by omega)) (by omega)) (pn (pcl_12_0_8 k2 (by omega) (by omega)) (by decide))⟩
    refine lv_iinc (v := (nI (k2 + 1))) (lv' := [(1, .int (nI (k2 + 1))), (0, .ref (ar 0))]) hx hb dX12_rounds_28 hl (k := 0) rfl (nI_add k2 1) (by decide) rfl (fun ls hl => ?_)
    refine lv_goto (tgt := 7) hx hb dX12_rounds_31 (by decide) ?_
    exact ih7 (9 - (k2 + 1)) _ _ _ _ (by omega) ⟨(k2 + 1), st57, sl4, rfl, by omega, by omega, hP, hG, hL, hS, lv_sub hl [0, 1] rfl, rfl⟩
set_option maxHeartbeats 4000000 in
set_option maxRecDepth 100000 in
theorem m_parted (l : Launch) (dC : Nat → ClassId) (dI : Nat → Nat → Nat) (ar : Nat → Nat) (cy : Nat → ClassId) (sz : Nat) (hN : MN ar) (st : Nat → Nat → Int32) (sl : Nat → Nat → Int64) (va : Int32) (hI : MI st) : Met l yX12_parted wsX12_parted ({ frames := 1, cells := 0, slots := 0, locals := 22 }) (va_Pc [.ref (ar 0), .int va] (mPre dC dI ar cy sz st sl)) (va_Qi (fun (r : Int32) (x : MT) => MG [1, 2, 3, 4, 5, 6, 7, 8, 9, 10, 11, 12, 13, 14, 15, 16, 17, 19, 20, 21, 22, 23] st x.1 ∧ LQ [7, 9] sl x.2 ∧ (True)) (mB dC dI ar cy) (MA ar sz)) 0 0 (MA ar sz) := by
  refine Met.ofW (cc := cX12_parted) (maxL := 2) (ret := (some .int)) (by decide) rfl ?_
  intro p e s m args below meth c s₁ B hml hv
  obtain ⟨rfl, hsz, hP, hK⟩ := hv
  have hx := B.exec
  have hb := B.bytes
  have hr := B.returns
  have hts := atoms_spec (ws := wsX12_parted) B.pre
  have hown : s.vm.findClass RX12 = some m.cls := findClass_of_methodNamed B.named
  subst hsz
  have hS : va_S (MA ar s.heap.size) s.heap s.heap [] := va_S.rf
  have hG : MG [1, 2, 3, 4, 5, 6, 7, 8, 9, 10, 11, 12, 13, 14, 15, 16, 17, 19, 20, 21, 22, 23] st st := MG.rf hI
  have hl := lv_entry ([.ref (ar 0), .int va]) (n := 2) (Nat.le_of_ble_eq_true rfl)
  rw [lg_entry_eq]
  generalize (lg_sl ([.ref (ar 0), .int va]) ++ List.replicate (2 - (lg_sl ([.ref (ar 0), .int va])).length) Slot.unset).toArray = ls at hl ⊢
  have hl : lv_has ls 2 [(0, .ref (ar 0)), (1, .int va)] := hl
  clear hI
  have hL : LQ [7, 9] sl sl := LQ.rf
  refine lv_aload_n hx hb dX12_parted_0 rfl (lv_at hl 0 rfl) ?_
  refine lv_iconst (v := 0) hx hb dX12_parted_1 (by decide) ?_
  refine va_put (D := (dC, dI)) (ci := 11) (v := .int 0) (ty := .int) (C := RX12) (T := TX12) (N := 47) hx hb hts ii_X12_parted tyX12 tyX12_ok nmX12 hown hK hP (mD hN _ _ _ _) hS 0 rfl rfl 0 (by decide) (hts _ mm_X12_parted_1) (fun _ hh => hh) rfl (by decide +kernel) rfl rfl (Nat.le_of_ble_eq_true rfl) dX12_parted_2 (fun H locs hP _ hS => ?_)
  have hP : va_P (dC, dI) vwCl (mw ar cy (up2 st 0 0 0) sl) H := hP
  obtain ⟨st1, hP, hG⟩ : ∃ y, va_P (dC, dI) vwCl (mw ar cy y sl) H ∧ MG [1, 2, 3, 4, 5, 6, 7, 8, 9, 10, 11, 12, 13, 14, 15, 16, 17, 19, 20, 21, 22, 23] st y := ⟨up2 st 0 0 0, hP, hG.up (rz (by decide : mr 0 0 = 0)) (pn (by decide : pcl 0 0 = 0) (by decide))⟩
  refine lv_aload_n hx hb dX12_parted_5 rfl (lv_at hl 0 rfl) ?_
  refine va_get (D := (dC, dI)) (ci := 11) (v := .int (st1 0 35)) (C := RX12) (T := TX12) (N := 47) hx hb hts ii_X12_parted hown hK hP 0 rfl rfl 35 (by decide) (hts _ mm_X12_parted_2) (fun _ hh => hh) rfl dX12_parted_6 ?_
  refine lv_topi (fun z2 ez2 => ?_)
  clear ez2
  refine lv_if_eq (tgt := 35) hx hb dX12_parted_9 (by decide) (fun c1 => ?_) (fun c1 => ?_)
  · refine lv_iconst (v := (-1)) hx hb dX12_parted_35 (by decide) ?_
    exact W.iret (v := (-1)) hx hb hr (fun t ht hW => ⟨⟨(-1), (st1, sl), rfl, ⟨hG, hL, trivial⟩, mB.of ht hP⟩, hS.F ht⟩) hS.2.2 dX12_parted_36
  · refine lv_iload_n hx hb dX12_parted_12 rfl (lv_at hl 1 rfl) ?_
    refine lv_iconst (v := 0) hx hb dX12_parted_13 (by decide) ?_
    refine lv_aload_n hx hb dX12_parted_14 rfl (lv_at hl 0 rfl) ?_
    refine va_get (D := (dC, dI)) (ci := 11) (v := .int (st1 0 33)) (C := RX12) (T := TX12) (N := 47) hx hb hts ii_X12_parted hown hK hP 0 rfl rfl 33 (by decide) (hts _ mm_X12_parted_3) (fun _ hh => hh) rfl dX12_parted_15 ?_
    obtain ⟨n3, hn3, en3⟩ := hG.1.at (r := 0) (k := 33) (by decide : mr 0 33 = 9) (by decide)
    refine zz_top (v := nI n3) (by exact en3) ?_
    clear en3
    refine lv_iconst (v := 1) hx hb dX12_parted_18 (by decide) ?_
    refine lv_isub hx hb dX12_parted_19 ?_
    refine lv_topi (fun z4 ez4 => ?_)
    refine va_calli (va_runS (As := [.int va, .int 0, .int z4]) (rest := []) ⟨hx, hb, hml, hown, hts⟩ (m_isIn l dC dI ar cy _ hN st1 sl va 0 z4  hG.1) (va_cwS 3 hts gX12_parted_X12_isIn rfl rfl rfl (by decide +kernel) ⟨Nat.le_of_ble_eq_true rfl, Nat.le_of_ble_eq_true rfl⟩) ⟨fun a U g mk q => ⟨q.1, mPre.blind q.2⟩, fun U hU hW => ⟨rfl, mPre.of hP hK hU hW⟩⟩ rfl rfl hl.1 rfl (lv_room (Nat.le_of_ble_eq_true rfl)) dX12_parted_20 ⟨Nat.le_of_ble_eq_true rfl, Nat.le_of_ble_eq_true rfl⟩) hS (fun q _ h => MA.le hS.1 q h) (MA.le hS.1) (fun r5 x t H locs ht hvm hw hB _ _ hS => ?_)
    have hP := mB.at ht hB
    clear hB ht hvm
    obtain ⟨rfl, hw⟩ := hw
    have hP : va_P (dC, dI) vwCl (mw ar cy st1 sl) _ := hP
    rcases hw with ⟨rfl, hf6, hf7⟩ | rfl
    · obtain ⟨n8, hn8, rfl⟩ := zz_inidx (a := n3) (by omega) hf6 (by rw [← ez4]; exact hf7)
      refine lv_if_eq (tgt := 35) hx hb dX12_parted_23 (by decide) (fun cc => absurd cc (by decide)) (fun _ => ?_)
      refine lv_aload_n hx hb dX12_parted_26 rfl (lv_at hl 0 rfl) ?_
      refine va_get (D := (dC, dI)) (ci := 11) (v := .ref (ar 11)) (C := RX12) (T := TX12) (N := 47) hx hb hts ii_X12_parted hown hK hP 0 rfl rfl 31 (by decide) (hts _ mm_X12_parted_4) (fun _ hh => hh) rfl dX12_parted_27 ?_
      refine lv_iload_n hx hb dX12_parted_30 rfl (lv_at hl 1 rfl) ?_
      refine va_iald hx hb hK hP 11 10 rfl rfl (i := (nI n8)) (vp_in_nI (by omega) (by decide)) dX12_parted_31 ?_
      refine lv_topi (fun z9 ez9 => ?_)
      clear ez9
      refine lv_goto (tgt := 36) hx hb dX12_parted_32 (by decide) ?_
      exact W.iret (v := z9) hx hb hr (fun t ht hW => ⟨⟨z9, (st1, sl), rfl, ⟨hG, hL, trivial⟩, mB.of ht hP⟩, hS.F ht⟩) hS.2.2 dX12_parted_36
    · refine lv_if_eq (tgt := 35) hx hb dX12_parted_23 (by decide) (fun _ => ?_) (fun cc => absurd (by decide) cc)
      refine lv_iconst (v := (-1)) hx hb dX12_parted_35 (by decide) ?_
      exact W.iret (v := (-1)) hx hb hr (fun t ht hW => ⟨⟨(-1), (st1, sl), rfl, ⟨hG, hL, trivial⟩, mB.of ht hP⟩, hS.F ht⟩) hS.2.2 dX12_parted_36
set_option maxHeartbeats 4000000 in
set_option maxRecDepth 100000 in
theorem m_layAside (l : Launch) (dC : Nat → ClassId) (dI : Nat → Nat → Nat) (ar : Nat → Nat) (cy : Nat → ClassId) (sz : Nat) (hN : MN ar) (st : Nat → Nat → Int32) (sl : Nat → Nat → Int64) (hI : MI st) : Met l yX12_layAside wsX12_layAside ({ frames := 0, cells := 0, slots := 0, locals := 0 }) (va_Pc [.ref (ar 0)] (mPre dC dI ar cy sz st sl)) (va_Qv (fun (x : MT) => MG [1, 2, 3, 4, 5, 6, 7, 8, 9, 10, 11, 12, 13, 14, 15, 16, 17, 19, 20, 21, 22, 23] st x.1 ∧ LQ [7, 9] sl x.2 ∧ (True)) (mB dC dI ar cy) (MA ar sz)) 0 0 (MA ar sz) := by
  refine Met.ofW (cc := cX12_layAside) (maxL := 2) (ret := none) (by decide) rfl ?_
  intro p e s m args below meth c s₁ B hml hv
  obtain ⟨rfl, hsz, hP, hK⟩ := hv
  have hx := B.exec
  have hb := B.bytes
  have hr := B.returns
  have hts := atoms_spec (ws := wsX12_layAside) B.pre
  have hown : s.vm.findClass RX12 = some m.cls := findClass_of_methodNamed B.named
  subst hsz
  have hS : va_S (MA ar s.heap.size) s.heap s.heap [] := va_S.rf
  have hG : MG [1, 2, 3, 4, 5, 6, 7, 8, 9, 10, 11, 12, 13, 14, 15, 16, 17, 19, 20, 21, 22, 23] st st := MG.rf hI
  have hl := lv_entry ([.ref (ar 0)]) (n := 2) (Nat.le_of_ble_eq_true rfl)
  rw [lg_entry_eq]
  generalize (lg_sl ([.ref (ar 0)]) ++ List.replicate (2 - (lg_sl ([.ref (ar 0)])).length) Slot.unset).toArray = ls at hl ⊢
  have hl : lv_has ls 2 [(0, .ref (ar 0))] := hl
  clear hI
  have hL : LQ [7, 9] sl sl := LQ.rf
  refine lv_iconst (v := 0) hx hb dX12_layAside_0 (by decide) ?_
  refine lv_istore_n (lv' := [(1, .int 0), (0, .ref (ar 0))]) hx hb dX12_layAside_1 rfl hl (by decide) rfl (fun ls hl => ?_)
  refine zz_wf (fun n stk H locs ls => ∃ k1 : Nat, ∃ st2 : Nat → Nat → Int32, ∃ sl3 : Nat → Nat → Int64, n = 71 - k1 ∧ 0 ≤ k1 ∧ k1 < 71 ∧ va_P (dC, dI) vwCl (mw ar cy st2 sl3) H ∧ MG [1, 2, 3, 4, 5, 6, 7, 8, 9, 10, 11, 12, 13, 14, 15, 16, 17, 19, 20, 21, 22, 23] st st2 ∧ LQ [7, 9] sl sl3 ∧ va_S (MA ar s.heap.size) s.heap H locs ∧ lv_has ls 2 [(1, .int (nI k1)), (0, .ref (ar 0))] ∧ stk = []) ?_ (71 - 0) _ _ _ _ ⟨0, st, sl, rfl, by omega, by omega, hP, hG, hL, hS, lv_sub hl [0, 1] rfl, rfl⟩
  rintro nn stk H locs ls ⟨k1, st2, sl3, hm5, hv4_0, hv5_1, hP, hG, hL, hS, hl, rfl⟩ ih6
  refine lv_iload_n hx hb dX12_layAside_2 rfl (lv_at hl 0 rfl) ?_
  refine lv_bipush (v := 70) hx hb dX12_layAside_3 (by decide) ?_
  refine lv_icmp_ge (tgt := 29) hx hb dX12_layAside_5 (by decide) (fun c1 => ?_) (fun c1 => ?_)
  · have c1 : 70 ≤ k1 := (nI_leI (a := 70) (b := k1) (by omega) (by omega)).mp c1
    exact W.vret hx hb hr (fun t ht hW => ⟨⟨(st2, sl3), rfl, ⟨hG, hL, trivial⟩, mB.of ht hP⟩, hS.F ht⟩) hS.2.2 dX12_layAside_29
  · have c1 : ¬ 70 ≤ k1 := fun hh => c1 ((nI_leI (a := 70) (b := k1) (by omega) (by omega)).mpr hh)
    refine lv_aload_n hx hb dX12_layAside_8 rfl (lv_at hl 1 rfl) ?_
    refine va_get (D := (dC, dI)) (ci := 11) (v := .ref (ar 6)) (C := RX12) (T := TX12) (N := 47) hx hb hts ii_X12_layAside hown hK hP 0 rfl rfl 18 (by decide) (hts _ mm_X12_layAside_1) (fun _ hh => hh) rfl dX12_layAside_9 ?_
    refine lv_iload_n hx hb dX12_layAside_12 rfl (lv_at hl 0 rfl) ?_
    refine lv_aload_n hx hb dX12_layAside_13 rfl (lv_at hl 1 rfl) ?_
    refine va_get (D := (dC, dI)) (ci := 11) (v := .ref (ar 2)) (C := RX12) (T := TX12) (N := 47) hx hb hts ii_X12_layAside hown hK hP 0 rfl rfl 14 (by decide) (hts _ mm_X12_layAside_2) (fun _ hh => hh) rfl dX12_layAside_14 ?_
    refine lv_bipush (v := 61) hx hb dX12_layAside_17 (by decide) ?_
    refine lv_iload_n hx hb dX12_layAside_19 rfl (lv_at hl 0 rfl) ?_
    refine lv_iadd hx hb dX12_layAside_20 ?_
    refine zz_top (v := nI (61 + k1)) (nI_add 61 k1) ?_
    refine va_iald hx hb hK hP 2 1 rfl rfl (i := (nI (61 + k1))) (vp_in_nI (by omega) (by decide)) dX12_layAside_21 ?_
    refine zz_top (v := st2 2 (61 + k1)) (by rw [nI_clamp (by omega)]) ?_
    have hIst2 := hG.1
    refine va_iast hx hb hK hP (mD hN _ _ _ _) hS 6 5 rfl rfl (i := (nI k1)) (vp_in_nI (by omega) (by decide)) dX12_layAside_22 (fun H locs hP _ hS => ?_)
    rw [nI_clamp (by omega)] at hP
    have hP : va_P (dC, dI) vwCl (mw ar cy (up2 st2 6 k1 (st2 2 (61 + k1))) sl3) H := hP
    obtain ⟨st7, hP, hG⟩ : ∃ y, va_P (dC, dI) vwCl (mw ar cy y sl3) H ∧ MG [1, 2, 3, 4, 5, 6, 7, 8, 9, 10, 11, 12, 13, 14, 15, 16, 17, 19, 20, 21, 22, 23] st y := ⟨up2 st2 6 k1 (st2 2 (61 + k1)), hP, hG.up (rc hIst2 (rfl)) (pn (pcl_6_0_70 k1 (by omega) (by omega)) (by decide))⟩
    refine lv_iinc (v := (nI (k1 + 1))) (lv' := [(1, .int (nI (k1 + 1))), (0, .ref (ar 0))]) hx hb dX12_layAside_23 hl (k := 0) rfl (nI_add k1 1) (by decide) rfl (fun ls hl => ?_)
    refine lv_goto (tgt := 2) hx hb dX12_layAside_26 (by decide) ?_
    exact ih6 (71 - (k1 + 1)) _ _ _ _ (by omega) ⟨(k1 + 1), st7, sl3, rfl, by omega, by omega, hP, hG, hL, hS, lv_sub hl [0, 1] rfl, rfl⟩
set_option maxHeartbeats 4000000 in
set_option maxRecDepth 100000 in
theorem m_takeBack (l : Launch) (dC : Nat → ClassId) (dI : Nat → Nat → Nat) (ar : Nat → Nat) (cy : Nat → ClassId) (sz : Nat) (hN : MN ar) (st : Nat → Nat → Int32) (sl : Nat → Nat → Int64) (hI : MI st) : Met l yX12_takeBack wsX12_takeBack ({ frames := 0, cells := 0, slots := 0, locals := 0 }) (va_Pc [.ref (ar 0)] (mPre dC dI ar cy sz st sl)) (va_Qv (fun (x : MT) => MG [1, 2, 3, 4, 5, 6, 7, 8, 9, 10, 11, 12, 13, 14, 15, 16, 17, 19, 20, 21, 22, 23] st x.1 ∧ LQ [7, 9] sl x.2 ∧ (True)) (mB dC dI ar cy) (MA ar sz)) 0 0 (MA ar sz) := by
  refine Met.ofW (cc := cX12_takeBack) (maxL := 2) (ret := none) (by decide) rfl ?_
  intro p e s m args below meth c s₁ B hml hv
  obtain ⟨rfl, hsz, hP, hK⟩ := hv
  have hx := B.exec
  have hb := B.bytes
  have hr := B.returns
  have hts := atoms_spec (ws := wsX12_takeBack) B.pre
  have hown : s.vm.findClass RX12 = some m.cls := findClass_of_methodNamed B.named
  subst hsz
  have hS : va_S (MA ar s.heap.size) s.heap s.heap [] := va_S.rf
  have hG : MG [1, 2, 3, 4, 5, 6, 7, 8, 9, 10, 11, 12, 13, 14, 15, 16, 17, 19, 20, 21, 22, 23] st st := MG.rf hI
  have hl := lv_entry ([.ref (ar 0)]) (n := 2) (Nat.le_of_ble_eq_true rfl)
  rw [lg_entry_eq]
  generalize (lg_sl ([.ref (ar 0)]) ++ List.replicate (2 - (lg_sl ([.ref (ar 0)])).length) Slot.unset).toArray = ls at hl ⊢
  have hl : lv_has ls 2 [(0, .ref (ar 0))] := hl
  clear hI
  have hL : LQ [7, 9] sl sl := LQ.rf
  refine lv_iconst (v := 0) hx hb dX12_takeBack_0 (by decide) ?_
  refine lv_istore_n (lv' := [(1, .int 0), (0, .ref (ar 0))]) hx hb dX12_takeBack_1 rfl hl (by decide) rfl (fun ls hl => ?_)
  refine zz_wf (fun n stk H locs ls => ∃ k1 : Nat, ∃ st2 : Nat → Nat → Int32, ∃ sl3 : Nat → Nat → Int64, n = 71 - k1 ∧ 0 ≤ k1 ∧ k1 < 71 ∧ va_P (dC, dI) vwCl (mw ar cy st2 sl3) H ∧ MG [1, 2, 3, 4, 5, 6, 7, 8, 9, 10, 11, 12, 13, 14, 15, 16, 17, 19, 20, 21, 22, 23] st st2 ∧ LQ [7, 9] sl sl3 ∧ va_S (MA ar s.heap.size) s.heap H locs ∧ lv_has ls 2 [(1, .int (nI k1)), (0, .ref (ar 0))] ∧ stk = []) ?_ (71 - 0) _ _ _ _ ⟨0, st, sl, rfl, by omega, by omega, hP, hG, hL, hS, lv_sub hl [0, 1] rfl, rfl⟩
  rintro nn stk H locs ls ⟨k1, st2, sl3, hm5, hv4_0, hv5_1, hP, hG, hL, hS, hl, rfl⟩ ih6
  refine lv_iload_n hx hb dX12_takeBack_2 rfl (lv_at hl 0 rfl) ?_
  refine lv_bipush (v := 70) hx hb dX12_takeBack_3 (by decide) ?_
  refine lv_icmp_ge (tgt := 29) hx hb dX12_takeBack_5 (by decide) (fun c1 => ?_) (fun c1 => ?_)
  · have c1 : 70 ≤ k1 := (nI_leI (a := 70) (b := k1) (by omega) (by omega)).mp c1
    exact W.vret hx hb hr (fun t ht hW => ⟨⟨(st2, sl3), rfl, ⟨hG, hL, trivial⟩, mB.of ht hP⟩, hS.F ht⟩) hS.2.2 dX12_takeBack_29
  · have c1 : ¬ 70 ≤ k1 := fun hh => c1 ((nI_leI (a := 70) (b := k1) (by omega) (by omega)).mpr hh)
    refine lv_aload_n hx hb dX12_takeBack_8 rfl (lv_at hl 1 rfl) ?_
    refine va_get (D := (dC, dI)) (ci := 11) (v := .ref (ar 2)) (C := RX12) (T := TX12) (N := 47) hx hb hts ii_X12_takeBack hown hK hP 0 rfl rfl 14 (by decide) (hts _ mm_X12_takeBack_1) (fun _ hh => hh) rfl dX12_takeBack_9 ?_
    refine lv_bipush (v := 61) hx hb dX12_takeBack_12 (by decide) ?_
    refine lv_iload_n hx hb dX12_takeBack_14 rfl (lv_at hl 0 rfl) ?_
    refine lv_iadd hx hb dX12_takeBack_15 ?_
    refine zz_top (v := nI (61 + k1)) (nI_add 61 k1) ?_
    refine lv_aload_n hx hb dX12_takeBack_16 rfl (lv_at hl 1 rfl) ?_
    refine va_get (D := (dC, dI)) (ci := 11) (v := .ref (ar 6)) (C := RX12) (T := TX12) (N := 47) hx hb hts ii_X12_takeBack hown hK hP 0 rfl rfl 18 (by decide) (hts _ mm_X12_takeBack_2) (fun _ hh => hh) rfl dX12_takeBack_17 ?_
    refine lv_iload_n hx hb dX12_takeBack_20 rfl (lv_at hl 0 rfl) ?_
    refine va_iald hx hb hK hP 6 5 rfl rfl (i := (nI k1)) (vp_in_nI (by omega) (by decide)) dX12_takeBack_21 ?_
    refine zz_top (v := st2 6 k1) (by rw [nI_clamp (by omega)]) ?_
    have hIst2 := hG.1
    refine va_iast hx hb hK hP (mD hN _ _ _ _) hS 2 1 rfl rfl (i := (nI (61 + k1))) (vp_in_nI (by omega) (by decide)) dX12_takeBack_22 (fun H locs hP _ hS => ?_)
    rw [nI_clamp (by omega)] at hP
    have hP : va_P (dC, dI) vwCl (mw ar cy (up2 st2 2 (61 + k1) (st2 6 k1)) sl3) H := hP
    obtain ⟨st7, hP, hG⟩ : ∃ y, va_P (dC, dI) vwCl (mw ar cy y sl3) H ∧ MG [1, 2, 3, 4, 5, 6, 7, 8, 9, 10, 11, 12, 13, 14, 15, 16, 17, 19, 20, 21, 22, 23] st y := ⟨up2 st2 2 (61 + k1) (st2 6 k1), hP, hG.up (rc hIst2 (rfl)) (pn (pcl_2_61_131 (61 + k1) (by omega) (by omega)) (by decide))⟩
    refine lv_iinc (v := (nI (k1 + 1))) (lv' := [(1, .int (nI (k1 + 1))), (0, .ref (ar 0))]) hx hb dX12_takeBack_23 hl (k := 0) rfl (nI_add k1 1) (by decide) rfl (fun ls hl => ?_)
    refine lv_goto (tgt := 2) hx hb dX12_takeBack_26 (by decide) ?_
    exact ih6 (71 - (k1 + 1)) _ _ _ _ (by omega) ⟨(k1 + 1), st7, sl3, rfl, by omega, by omega, hP, hG, hL, hS, lv_sub hl [0, 1] rfl, rfl⟩
