set_option maxHeartbeats 4000000 in
set_option maxRecDepth 100000 in
theorem m_board (l : Launch) (dC : Nat → ClassId) (dI : Nat → Nat → Nat) (ar : Nat → Nat) (cy : Nat → ClassId) (sz : Nat) (hN : MN ar) (st : Nat → Nat → Int32) (sl : Nat → Nat → Int64) (va : Int32) (hI : MI st) : Met l yX12_board wsX12_board ({ frames := 15, cells := 0, slots := 0, locals := 329 }) (va_Pc [.ref (ar 0), .int va] (mPre dC dI ar cy sz st sl)) (va_Qi (fun (r : Int32) (x : MT) => MG [1, 2, 3, 4, 5, 6, 7, 8, 9, 10, 11, 12, 13, 14, 16, 17, 19, 20, 21, 22, 23] st x.1 ∧ LQ [7, 9] sl x.2 ∧ (True)) (mB dC dI ar cy) (MA ar sz)) 0 0 (MA ar sz) := by
  refine Met.ofW (cc := cX12_board) (maxL := 5) (ret := (some .int)) (by decide) rfl ?_
  intro p e s m args below meth c s₁ B hml hv
  obtain ⟨rfl, hsz, hP, hK⟩ := hv
  have hx := B.exec
  have hb := B.bytes
  have hr := B.returns
  have hts := atoms_spec (ws := wsX12_board) B.pre
  have hown : s.vm.findClass RX12 = some m.cls := findClass_of_methodNamed B.named
  subst hsz
  have hS : va_S (MA ar s.heap.size) s.heap s.heap [] := va_S.rf
  have hG : MG [1, 2, 3, 4, 5, 6, 7, 8, 9, 10, 11, 12, 13, 14, 16, 17, 19, 20, 21, 22, 23] st st := MG.rf hI
  have hl := lv_entry ([.ref (ar 0), .int va]) (n := 5) (Nat.le_of_ble_eq_true rfl)
  rw [lg_entry_eq]
  generalize (lg_sl ([.ref (ar 0), .int va]) ++ List.replicate (5 - (lg_sl ([.ref (ar 0), .int va])).length) Slot.unset).toArray = ls at hl ⊢
  have hl : lv_has ls 5 [(0, .ref (ar 0)), (1, .int va)] := hl
  clear hI
  have hL : LQ [7, 9] sl sl := LQ.rf
  refine lv_aload_n hx hb dX12_board_0 rfl (lv_at hl 0 rfl) ?_
  refine lv_iconst (v := 0) hx hb dX12_board_1 (by decide) ?_
  refine va_put (D := (dC, dI)) (ci := 11) (v := .int 0) (ty := .int) (C := RX12) (T := TX12) (N := 47) hx hb hts ii_X12_board tyX12 tyX12_ok nmX12 hown hK hP (mD hN _ _ _ _) hS 0 rfl rfl 0 (by decide) (hts _ mm_X12_board_1) (fun _ hh => hh) rfl (by decide +kernel) rfl rfl (Nat.le_of_ble_eq_true rfl) dX12_board_2 (fun H locs hP _ hS => ?_)
  have hP : va_P (dC, dI) vwCl (mw ar cy (up2 st 0 0 0) sl) H := hP
  obtain ⟨st1, est1⟩ : ∃ y, y = up2 st 0 0 0 := ⟨_, rfl⟩
  have hG : MG [1, 2, 3, 4, 5, 6, 7, 8, 9, 10, 11, 12, 13, 14, 16, 17, 19, 20, 21, 22, 23] st st1 := by rw [est1]; exact hG.up (rz (by decide : mr 0 0 = 0)) (pn (by decide : pcl 0 0 = 0) (by decide))
  rw [← est1] at hP
  refine lv_aload_n hx hb dX12_board_5 rfl (lv_at hl 0 rfl) ?_
  refine lv_iload_n hx hb dX12_board_6 rfl (lv_at hl 1 rfl) ?_
  refine va_calli (va_runV (As := [.int va]) (rest := []) ⟨hx, hb, hml, hown, hts⟩ (m_isPlace l dC dI ar cy _ hN st1 sl va  hG.1) (cwV 1 hts gX12_board_X12_isPlace rfl rfl rfl (by decide +kernel) ⟨Nat.le_of_ble_eq_true rfl, Nat.le_of_ble_eq_true rfl⟩) ⟨fun a U g mk q => ⟨q.1, mPre.blind q.2⟩, va_recv hK hP (ci := 11) (q0 := 0) rfl rfl, fun U hU hW => ⟨rfl, mPre.of hP hK hU hW⟩⟩ rfl rfl hl.1 rfl (lv_room (Nat.le_of_ble_eq_true rfl)) dX12_board_7 ⟨Nat.le_of_ble_eq_true rfl, Nat.le_of_ble_eq_true rfl⟩) hS (fun q _ h => MA.le hS.1 q h) (MA.le hS.1) (fun r2 x t H locs ht hvm hw hB _ _ hS => ?_)
  have hP := mB.at ht hB
  clear hB ht hvm
  obtain ⟨rfl, hw⟩ := hw
  have hP : va_P (dC, dI) vwCl (mw ar cy st1 sl) _ := hP
  rcases hw with ⟨n3, rfl, hf4, rfl⟩ | rfl
  · refine lv_if_ne (tgt := 15) hx hb dX12_board_10 (by decide) (fun _ => ?_) (fun cc => absurd cc (by decide))
    refine lv_aload_n hx hb dX12_board_15 rfl (lv_at hl 0 rfl) ?_
    refine lv_iconst (v := 0) hx hb dX12_board_16 (by decide) ?_
    refine va_put (D := (dC, dI)) (ci := 11) (v := .int 0) (ty := .int) (C := RX12) (T := TX12) (N := 47) hx hb hts ii_X12_board tyX12 tyX12_ok nmX12 hown hK hP (mD hN _ _ _ _) hS 0 rfl rfl 37 (by decide) (hts _ mm_X12_board_2) (fun _ hh => hh) rfl (by decide +kernel) rfl rfl (Nat.le_of_ble_eq_true rfl) dX12_board_17 (fun H locs hP _ hS => ?_)
    have hP : va_P (dC, dI) vwCl (mw ar cy (up2 st1 0 37 0) sl) H := hP
    obtain ⟨st5, est5⟩ : ∃ y, y = up2 st1 0 37 0 := ⟨_, rfl⟩
    have hG : MG [1, 2, 3, 4, 5, 6, 7, 8, 9, 10, 11, 12, 13, 14, 16, 17, 19, 20, 21, 22, 23] st st5 := by rw [est5]; exact hG.up (r0) (pn (by decide : pcl 0 37 = 15) (by decide))
    rw [← est5] at hP
    refine lv_aload_n hx hb dX12_board_20 rfl (lv_at hl 0 rfl) ?_
    refine lv_aload_n hx hb dX12_board_21 rfl (lv_at hl 0 rfl) ?_
    refine va_get (D := (dC, dI)) (ci := 11) (v := .ref (ar 7)) (C := RX12) (T := TX12) (N := 47) hx hb hts ii_X12_board hown hK hP 0 rfl rfl 19 (by decide) (hts _ mm_X12_board_3) (fun _ hh => hh) rfl dX12_board_22 ?_
    refine lv_iload_n hx hb dX12_board_25 rfl (lv_at hl 1 rfl) ?_
    refine va_lald hx hb hK hP 7 6 rfl rfl (i := (nI n3)) (vp_in_nI (by omega) (by decide)) dX12_board_26 ?_
    refine lv_topl (fun z6 ez6 => ?_)
    clear ez6
    refine va_callv (va_runV (As := [.long z6]) (rest := []) ⟨hx, hb, hml, hown, hts⟩ (m_writeWord13 l dC dI ar cy _ hN st5 sl z6 0  hG.1 (by rw [est5, up2_same]; rfl) (by omega)) (cwV 1 hts gX12_board_X12_writeWord rfl rfl rfl (by decide +kernel) ⟨Nat.le_of_ble_eq_true rfl, Nat.le_of_ble_eq_true rfl⟩) ⟨fun a U g mk q => ⟨q.1, mPre.blind q.2⟩, va_recv hK hP (ci := 11) (q0 := 0) rfl rfl, fun U hU hW => ⟨rfl, mPre.of hP hK hU hW⟩⟩ rfl rfl hl.1 rfl (lv_room (Nat.le_of_ble_eq_true rfl)) dX12_board_27 ⟨Nat.le_of_ble_eq_true rfl, Nat.le_of_ble_eq_true rfl⟩) hS (fun q _ h => MA.le hS.1 q h) (MA.le hS.1) (fun x t H locs ht hvm hw hB _ _ hS => ?_)
    have hP := mB.at ht hB
    clear hB ht hvm
    obtain ⟨st8, sl9⟩ := x
    obtain ⟨hG2, hL2, hw⟩ := hw
    have hL : LQ [7, 9] sl sl9 := hL.tr hL2 (by decide)
    clear hL2
    dsimp only at hw
    have hP : va_P (dC, dI) vwCl (mw ar cy st8 sl9) _ := hP
    have hG : MG [1, 2, 3, 4, 5, 6, 7, 8, 9, 10, 11, 12, 13, 14, 16, 17, 19, 20, 21, 22, 23] st st8 := hG.tr hG2 (by decide)
    have hGst8 : MG [1, 2, 3, 4, 5, 6, 7, 8, 9, 10, 11, 12, 13, 14, 16, 17, 19, 20, 21, 22, 23] st5 st8 := hG2
    clear hG2
    obtain ⟨n10, hf11, hf12⟩ := hw
    refine lv_aload_n hx hb dX12_board_30 rfl (lv_at hl 0 rfl) ?_
    refine va_get (D := (dC, dI)) (ci := 11) (v := .ref (ar 2)) (C := RX12) (T := TX12) (N := 47) hx hb hts ii_X12_board hown hK hP 0 rfl rfl 14 (by decide) (hts _ mm_X12_board_4) (fun _ hh => hh) rfl dX12_board_31 ?_
    refine lv_bipush (v := 66) hx hb dX12_board_34 (by decide) ?_
    refine lv_iload_n hx hb dX12_board_36 rfl (lv_at hl 1 rfl) ?_
    refine lv_iadd hx hb dX12_board_37 ?_
    refine zz_top (v := nI (66 + n3)) (nI_add 66 n3) ?_
    refine va_iald hx hb hK hP 2 1 rfl rfl (i := (nI (66 + n3))) (vp_in_nI (by omega) (by decide)) dX12_board_38 ?_
    obtain ⟨n13, hn13, en13⟩ := hG.1.at (r := 2) (k := (66 + n3)) (mr_2_66_71 (66 + n3) (by omega) (by omega)) (by decide)
    refine zz_top (v := nI n13) (by rw [nI_clamp (by omega)]; exact en13) ?_
    refine lv_istore_n (lv' := [(2, .int (nI n13)), (0, .ref (ar 0)), (1, .int (nI n3))]) hx hb dX12_board_39 rfl hl (by decide) rfl (fun ls hl => ?_)
    refine lv_iload_n hx hb dX12_board_40 rfl (lv_at hl 0 rfl) ?_
    refine lv_if_ne (tgt := 100) hx hb dX12_board_41 (by decide) (fun c2 => ?_) (fun c2 => ?_)
    · have c2 : ¬ n13 = 0 := fun hh => c2 ((nI_eq (a := n13) (b := 0) (by omega) (by omega)).mpr hh)
      obtain ⟨b0, hb0, eb0⟩ := bt_nz (x := (nI n13)) (nI_ne0 (by omega) (by omega))
      have hb31 := bt31 (n := n13) (by omega)
      have hb0 : b0 < 31 := by rcases Nat.lt_or_ge b0 31 with hh | hh; (exact hh); (rw [show b0 = 31 by omega, hb31] at eb0; cases eb0)
      refine lv_aload_n hx hb dX12_board_100 rfl (lv_at hl 1 rfl) ?_
      refine lv_iconst (v := 4) hx hb dX12_board_101 (by decide) ?_
      refine va_calll (va_runS (As := [.int 4]) (rest := [.ref (ar 0)]) ⟨hx, hb, hml, hown, hts⟩ (m_wordOf4 l dC dI ar cy _ hN st8 sl9  hG.1) (va_cwS 1 hts gX12_board_X12_wordOf rfl rfl rfl (by decide +kernel) ⟨Nat.le_of_ble_eq_true rfl, Nat.le_of_ble_eq_true rfl⟩) ⟨fun a U g mk q => ⟨q.1, mPre.blind q.2⟩, fun U hU hW => ⟨rfl, mPre.of hP hK hU hW⟩⟩ rfl rfl hl.1 rfl (lv_room (Nat.le_of_ble_eq_true rfl)) dX12_board_102 ⟨Nat.le_of_ble_eq_true rfl, Nat.le_of_ble_eq_true rfl⟩) hS (fun q _ h => MA.le hS.1 q h) (MA.le hS.1) (fun r14 x t H locs ht hvm hw hB _ _ hS => ?_)
      have hP := mB.at ht hB
      clear hB ht hvm
      obtain ⟨rfl, hw⟩ := hw
      have hP : va_P (dC, dI) vwCl (mw ar cy st8 sl9) _ := hP
      obtain rfl := hw
      refine va_callv (va_runV (As := [.long 131360]) (rest := []) ⟨hx, hb, hml, hown, hts⟩ (m_writeNext3 l dC dI ar cy _ hN st8 sl9 131360 n10  hG.1 (by rw [hf11]) (by omega) (by decide)) (cwV 1 hts gX12_board_X12_writeNext rfl rfl rfl (by decide +kernel) ⟨Nat.le_of_ble_eq_true rfl, Nat.le_of_ble_eq_true rfl⟩) ⟨fun a U g mk q => ⟨q.1, mPre.blind q.2⟩, va_recv hK hP (ci := 11) (q0 := 0) rfl rfl, fun U hU hW => ⟨rfl, mPre.of hP hK hU hW⟩⟩ rfl rfl hl.1 rfl (lv_room (Nat.le_of_ble_eq_true rfl)) dX12_board_105 ⟨Nat.le_of_ble_eq_true rfl, Nat.le_of_ble_eq_true rfl⟩) hS (fun q _ h => MA.le hS.1 q h) (MA.le hS.1) (fun x t H locs ht hvm hw hB _ _ hS => ?_)
      have hP := mB.at ht hB
      clear hB ht hvm
      obtain ⟨st16, sl17⟩ := x
      obtain ⟨hG2, hL2, hw⟩ := hw
      have hL : LQ [7, 9] sl sl17 := hL.tr hL2 (by decide)
      clear hL2
      dsimp only at hw
      have hP : va_P (dC, dI) vwCl (mw ar cy st16 sl17) _ := hP
      have hG : MG [1, 2, 3, 4, 5, 6, 7, 8, 9, 10, 11, 12, 13, 14, 16, 17, 19, 20, 21, 22, 23] st st16 := hG.tr hG2 (by decide)
      have hGst16 : MG [1, 2, 3, 4, 5, 6, 7, 8, 9, 10, 11, 12, 13, 14, 16, 17, 19, 20, 21, 22, 23] st8 st16 := hG2
      clear hG2
      obtain ⟨n18, hf19, hf20⟩ := hw
      refine lv_aload_n hx hb dX12_board_108 rfl (lv_at hl 1 rfl) ?_
      refine lv_bipush (v := 32) hx hb dX12_board_109 (by decide) ?_
      refine va_callv (va_runV (As := [.int 32]) (rest := []) ⟨hx, hb, hml, hown, hts⟩ (m_write l dC dI ar cy _ hN st16 sl17 32 n18  hG.1 (by rw [hf19]) (by omega)) (cwV 1 hts gX12_board_X12_write rfl rfl rfl (by decide +kernel) ⟨Nat.le_of_ble_eq_true rfl, Nat.le_of_ble_eq_true rfl⟩) ⟨fun a U g mk q => ⟨q.1, mPre.blind q.2⟩, va_recv hK hP (ci := 11) (q0 := 0) rfl rfl, fun U hU hW => ⟨rfl, mPre.of hP hK hU hW⟩⟩ rfl rfl hl.1 rfl (lv_room (Nat.le_of_ble_eq_true rfl)) dX12_board_111 ⟨Nat.le_of_ble_eq_true rfl, Nat.le_of_ble_eq_true rfl⟩) hS (fun q _ h => MA.le hS.1 q h) (MA.le hS.1) (fun x t H locs ht hvm hw hB _ _ hS => ?_)
      have hP := mB.at ht hB
      clear hB ht hvm
      obtain ⟨st22, sl23⟩ := x
      obtain ⟨hG2, hL2, hw⟩ := hw
      have hL : LQ [7, 9] sl sl23 := hL.tr hL2 (by decide)
      clear hL2
      dsimp only at hw
      have hP : va_P (dC, dI) vwCl (mw ar cy st22 sl23) _ := hP
      have hG : MG [1, 2, 3, 4, 5, 6, 7, 8, 9, 10, 11, 12, 13, 14, 16, 17, 19, 20, 21, 22, 23] st st22 := hG.tr hG2 (by decide)
      have hGst22 : MG [1, 2, 3, 4, 5, 6, 7, 8, 9, 10, 11, 12, 13, 14, 16, 17, 19, 20, 21, 22, 23] st16 st22 := hG2
      clear hG2
      have hf24 := hw
      refine lv_iconst (v := 0) hx hb dX12_board_114 (by decide) ?_
      refine lv_istore_n (lv' := [(3, .int 0), (2, .int (nI n13)), (0, .ref (ar 0)), (1, .int (nI n3))]) hx hb dX12_board_115 rfl hl (by decide) rfl (fun ls hl => ?_)
      refine zz_wf (fun n stk H locs ls => ∃ k25 : Nat, n = 31 - k25 ∧ 0 ≤ k25 ∧ k25 < 31 ∧ k25 ≤ b0 ∧ va_P (dC, dI) vwCl (mw ar cy st22 sl23) H ∧ va_S (MA ar s.heap.size) s.heap H locs ∧ lv_has ls 5 [(3, .int (nI k25)), (2, .int (nI n13)), (0, .ref (ar 0)), (1, .int (nI n3))] ∧ stk = []) ?_ (31 - 0) _ _ _ _ ⟨0, rfl, by omega, by omega, by omega, hP, hS, lv_sub hl [0, 1, 2, 3] rfl, rfl⟩
      rintro nn stk H locs ls ⟨k25, hm28, hv26_0, hv27_1, hv28_0, hP, hS, hl, rfl⟩ ih29
      refine lv_iload_n hx hb dX12_board_116 rfl (lv_at hl 1 rfl) ?_
      refine lv_iload_n hx hb dX12_board_117 rfl (lv_at hl 0 rfl) ?_
      refine va_calli (va_runS (As := [.int (nI n13), .int (nI k25)]) (rest := []) ⟨hx, hb, hml, hown, hts⟩ (m_hasB l dC dI ar cy _ hN st22 sl23 (nI n13) k25 (by omega) hG.1) (va_cwS 2 hts gX12_board_X12_has rfl rfl rfl (by decide +kernel) ⟨Nat.le_of_ble_eq_true rfl, Nat.le_of_ble_eq_true rfl⟩) ⟨fun a U g mk q => ⟨q.1, mPre.blind q.2⟩, fun U hU hW => ⟨rfl, mPre.of hP hK hU hW⟩⟩ rfl rfl hl.1 rfl (lv_room (Nat.le_of_ble_eq_true rfl)) dX12_board_118 ⟨Nat.le_of_ble_eq_true rfl, Nat.le_of_ble_eq_true rfl⟩) hS (fun q _ h => MA.le hS.1 q h) (MA.le hS.1) (fun r30 x t H locs ht hvm hw hB _ _ hS => ?_)
      have hP := mB.at ht hB
      clear hB ht hvm
      obtain ⟨rfl, hw⟩ := hw
      have hP : va_P (dC, dI) vwCl (mw ar cy st22 sl23) _ := hP
      rcases hw with ⟨rfl, hf31⟩ | ⟨rfl, hf32⟩
      · have hon := hf31
        refine lv_if_ne (tgt := 130) hx hb dX12_board_121 (by decide) (fun _ => ?_) (fun cc => absurd cc (by decide))
        refine lv_iload_n hx hb dX12_board_130 rfl (lv_at hl 0 rfl) ?_
        refine lv_istore (lv' := [(4, .int (nI k25)), (3, .int (nI k25)), (2, .int (nI n13)), (0, .ref (ar 0)), (1, .int (nI n3))]) hx hb dX12_board_131 hl (by decide) rfl (fun ls hl => ?_)
        refine zz_wf (fun n stk H locs ls => ∃ k33 : Nat, n = 31 - k33 ∧ 0 ≤ k33 ∧ k33 < 31 ∧ k25 ≤ k33 ∧ va_P (dC, dI) vwCl (mw ar cy st22 sl23) H ∧ va_S (MA ar s.heap.size) s.heap H locs ∧ lv_has ls 5 [(4, .int (nI k33)), (3, .int (nI k25)), (2, .int (nI n13)), (0, .ref (ar 0)), (1, .int (nI n3))] ∧ stk = []) ?_ (31 - k25) _ _ _ _ ⟨k25, rfl, by omega, by omega, by omega, hP, hS, lv_sub hl [0, 1, 2, 3, 4] rfl, rfl⟩
        rintro nn stk H locs ls ⟨k33, hm36, hv34_0, hv35_1, hv36_0, hP, hS, hl, rfl⟩ ih37
        refine lv_iload_n hx hb dX12_board_133 rfl (lv_at hl 2 rfl) ?_
        refine lv_iload hx hb dX12_board_134 (lv_at hl 0 rfl) ?_
        refine lv_iconst (v := 1) hx hb dX12_board_136 (by decide) ?_
        refine lv_iadd hx hb dX12_board_137 ?_
        refine zz_top (v := nI (k33 + 1)) (nI_add k33 1) ?_
        refine va_calli (va_runS (As := [.int (nI n13), .int (nI (k33 + 1))]) (rest := []) ⟨hx, hb, hml, hown, hts⟩ (m_hasB l dC dI ar cy _ hN st22 sl23 (nI n13) (k33 + 1) (by omega) hG.1) (va_cwS 2 hts gX12_board_X12_has rfl rfl rfl (by decide +kernel) ⟨Nat.le_of_ble_eq_true rfl, Nat.le_of_ble_eq_true rfl⟩) ⟨fun a U g mk q => ⟨q.1, mPre.blind q.2⟩, fun U hU hW => ⟨rfl, mPre.of hP hK hU hW⟩⟩ rfl rfl hl.1 rfl (lv_room (Nat.le_of_ble_eq_true rfl)) dX12_board_138 ⟨Nat.le_of_ble_eq_true rfl, Nat.le_of_ble_eq_true rfl⟩) hS (fun q _ h => MA.le hS.1 q h) (MA.le hS.1) (fun r38 x t H locs ht hvm hw hB _ _ hS => ?_)
        have hP := mB.at ht hB
        clear hB ht hvm
        obtain ⟨rfl, hw⟩ := hw
        have hP : va_P (dC, dI) vwCl (mw ar cy st22 sl23) _ := hP
        rcases hw with ⟨rfl, hf39⟩ | ⟨rfl, hf40⟩
        · have hne : ¬ (k33 + 1) = 31 := fun hh => by rw [hh, hb31] at hf39; cases hf39
          refine lv_if_eq (tgt := 150) hx hb dX12_board_141 (by decide) (fun cc => absurd cc (by decide)) (fun _ => ?_)
          refine lv_iinc (v := (nI (k33 + 1))) (lv' := [(4, .int (nI (k33 + 1))), (3, .int (nI k25)), (2, .int (nI n13)), (0, .ref (ar 0)), (1, .int (nI n3))]) hx hb dX12_board_144 hl (k := 0) rfl (nI_add k33 1) (by decide) rfl (fun ls hl => ?_)
          refine lv_goto (tgt := 133) hx hb dX12_board_147 (by decide) ?_
          exact ih37 (31 - (k33 + 1)) _ _ _ _ (by omega) ⟨(k33 + 1), rfl, by omega, by omega, by omega, hP, hS, lv_sub hl [0, 1, 2, 3, 4] rfl, rfl⟩
        · refine lv_if_eq (tgt := 150) hx hb dX12_board_141 (by decide) (fun _ => ?_) (fun cc => absurd (by decide) cc)
          refine lv_aload_n hx hb dX12_board_150 rfl (lv_at hl 3 rfl) ?_
          refine lv_iload_n hx hb dX12_board_151 rfl (lv_at hl 1 rfl) ?_
          refine va_callv (va_runV (As := [.int (nI k25)]) (rest := []) ⟨hx, hb, hml, hown, hts⟩ (m_writeNumber1 l dC dI ar cy _ hN st22 sl23 k25 (n18 + 1) (by omega) hG.1 (by rw [hf24]) (by omega)) (cwV 1 hts gX12_board_X12_writeNumber rfl rfl rfl (by decide +kernel) ⟨Nat.le_of_ble_eq_true rfl, Nat.le_of_ble_eq_true rfl⟩) ⟨fun a U g mk q => ⟨q.1, mPre.blind q.2⟩, va_recv hK hP (ci := 11) (q0 := 0) rfl rfl, fun U hU hW => ⟨rfl, mPre.of hP hK hU hW⟩⟩ rfl rfl hl.1 rfl (lv_room (Nat.le_of_ble_eq_true rfl)) dX12_board_152 ⟨Nat.le_of_ble_eq_true rfl, Nat.le_of_ble_eq_true rfl⟩) hS (fun q _ h => MA.le hS.1 q h) (MA.le hS.1) (fun x t H locs ht hvm hw hB _ _ hS => ?_)
          have hP := mB.at ht hB
          clear hB ht hvm
          obtain ⟨st42, sl43⟩ := x
          obtain ⟨hG2, hL2, hw⟩ := hw
          have hL : LQ [7, 9] sl sl43 := hL.tr hL2 (by decide)
          clear hL2
          dsimp only at hw
          have hP : va_P (dC, dI) vwCl (mw ar cy st42 sl43) _ := hP
          have hG : MG [1, 2, 3, 4, 5, 6, 7, 8, 9, 10, 11, 12, 13, 14, 16, 17, 19, 20, 21, 22, 23] st st42 := hG.tr hG2 (by decide)
          have hGst42 : MG [1, 2, 3, 4, 5, 6, 7, 8, 9, 10, 11, 12, 13, 14, 16, 17, 19, 20, 21, 22, 23] st22 st42 := hG2
          clear hG2
          obtain ⟨n44, hf45, hf46⟩ := hw
          refine lv_iload hx hb dX12_board_155 (lv_at hl 0 rfl) ?_
          refine lv_iload_n hx hb dX12_board_157 rfl (lv_at hl 1 rfl) ?_
          refine lv_icmp_le (tgt := 189) hx hb dX12_board_158 (by decide) (fun c6 => ?_) (fun c6 => ?_)
          · have c6 : k33 ≤ k25 := (nI_leI (a := k33) (b := k25) (by omega) (by omega)).mp c6
            refine lv_iload_n hx hb dX12_board_189 rfl (lv_at hl 2 rfl) ?_
            refine lv_iload_n hx hb dX12_board_190 rfl (lv_at hl 1 rfl) ?_
            refine lv_iload hx hb dX12_board_191 (lv_at hl 0 rfl) ?_
            refine va_calli (va_runS (As := [.int (nI k25), .int (nI k33)]) (rest := [.int (nI n13)]) ⟨hx, hb, hml, hown, hts⟩ (m_hoursIn l dC dI ar cy _ hN st42 sl43 (nI k25) (nI k33)  hG.1) (va_cwS 2 hts gX12_board_X12_hoursIn rfl rfl rfl (by decide +kernel) ⟨Nat.le_of_ble_eq_true rfl, Nat.le_of_ble_eq_true rfl⟩) ⟨fun a U g mk q => ⟨q.1, mPre.blind q.2⟩, fun U hU hW => ⟨rfl, mPre.of hP hK hU hW⟩⟩ rfl rfl hl.1 rfl (lv_room (Nat.le_of_ble_eq_true rfl)) dX12_board_193 ⟨Nat.le_of_ble_eq_true rfl, Nat.le_of_ble_eq_true rfl⟩) hS (fun q _ h => MA.le hS.1 q h) (MA.le hS.1) (fun r47 x t H locs ht hvm hw hB _ _ hS => ?_)
            have hP := mB.at ht hB
            clear hB ht hvm
            obtain ⟨rfl, hw⟩ := hw
            have hP : va_P (dC, dI) vwCl (mw ar cy st42 sl43) _ := hP
            clear hw
            refine lv_iconst (v := (-1)) hx hb dX12_board_196 (by decide) ?_
            refine lv_ixor hx hb dX12_board_197 ?_
            refine lv_topi (fun z48 ez48 => ?_)
            refine lv_iand hx hb dX12_board_198 ?_
            refine lv_topi (fun z49 ez49 => ?_)
            refine lv_if_eq (tgt := 229) hx hb dX12_board_199 (by decide) (fun c7 => ?_) (fun c7 => ?_)
            · refine lv_aload_n hx hb dX12_board_229 rfl (lv_at hl 3 rfl) ?_
              refine va_get (D := (dC, dI)) (ci := 11) (v := .int (st42 0 37)) (C := RX12) (T := TX12) (N := 47) hx hb hts ii_X12_board hown hK hP 0 rfl rfl 37 (by decide) (hts _ mm_X12_board_2) (fun _ hh => hh) rfl dX12_board_230 ?_
              refine zz_top (v := (nI n44)) (by show st42 0 37 = _; rw [hf45]) ?_
              exact W.iret (v := (nI n44)) hx hb hr (fun t ht hW => ⟨⟨(nI n44), (st42, sl43), rfl, ⟨hG, hL, trivial⟩, mB.of ht hP⟩, hS.F ht⟩) hS.2.2 dX12_board_233
            · refine lv_aload_n hx hb dX12_board_202 rfl (lv_at hl 3 rfl) ?_
              refine lv_bipush (v := 14) hx hb dX12_board_203 (by decide) ?_
              refine va_calll (va_runS (As := [.int 14]) (rest := [.ref (ar 0)]) ⟨hx, hb, hml, hown, hts⟩ (m_wordOf14 l dC dI ar cy _ hN st42 sl43  hG.1) (va_cwS 1 hts gX12_board_X12_wordOf rfl rfl rfl (by decide +kernel) ⟨Nat.le_of_ble_eq_true rfl, Nat.le_of_ble_eq_true rfl⟩) ⟨fun a U g mk q => ⟨q.1, mPre.blind q.2⟩, fun U hU hW => ⟨rfl, mPre.of hP hK hU hW⟩⟩ rfl rfl hl.1 rfl (lv_room (Nat.le_of_ble_eq_true rfl)) dX12_board_205 ⟨Nat.le_of_ble_eq_true rfl, Nat.le_of_ble_eq_true rfl⟩) hS (fun q _ h => MA.le hS.1 q h) (MA.le hS.1) (fun r50 x t H locs ht hvm hw hB _ _ hS => ?_)
              have hP := mB.at ht hB
              clear hB ht hvm
              obtain ⟨rfl, hw⟩ := hw
              have hP : va_P (dC, dI) vwCl (mw ar cy st42 sl43) _ := hP
              obtain rfl := hw
              refine va_callv (va_runV (As := [.long 1111]) (rest := []) ⟨hx, hb, hml, hown, hts⟩ (m_writeNext2 l dC dI ar cy _ hN st42 sl43 1111 n44  hG.1 (by rw [hf45]) (by omega) (by decide)) (cwV 1 hts gX12_board_X12_writeNext rfl rfl rfl (by decide +kernel) ⟨Nat.le_of_ble_eq_true rfl, Nat.le_of_ble_eq_true rfl⟩) ⟨fun a U g mk q => ⟨q.1, mPre.blind q.2⟩, va_recv hK hP (ci := 11) (q0 := 0) rfl rfl, fun U hU hW => ⟨rfl, mPre.of hP hK hU hW⟩⟩ rfl rfl hl.1 rfl (lv_room (Nat.le_of_ble_eq_true rfl)) dX12_board_208 ⟨Nat.le_of_ble_eq_true rfl, Nat.le_of_ble_eq_true rfl⟩) hS (fun q _ h => MA.le hS.1 q h) (MA.le hS.1) (fun x t H locs ht hvm hw hB _ _ hS => ?_)
              have hP := mB.at ht hB
              clear hB ht hvm
              obtain ⟨st52, sl53⟩ := x
              obtain ⟨hG2, hL2, hw⟩ := hw
              have hL : LQ [7, 9] sl sl53 := hL.tr hL2 (by decide)
              clear hL2
              dsimp only at hw
              have hP : va_P (dC, dI) vwCl (mw ar cy st52 sl53) _ := hP
              have hG : MG [1, 2, 3, 4, 5, 6, 7, 8, 9, 10, 11, 12, 13, 14, 16, 17, 19, 20, 21, 22, 23] st st52 := hG.tr hG2 (by decide)
              have hGst52 : MG [1, 2, 3, 4, 5, 6, 7, 8, 9, 10, 11, 12, 13, 14, 16, 17, 19, 20, 21, 22, 23] st42 st52 := hG2
              clear hG2
              obtain ⟨n54, hf55, hf56⟩ := hw
              refine lv_aload_n hx hb dX12_board_211 rfl (lv_at hl 3 rfl) ?_
              refine lv_bipush (v := 109) hx hb dX12_board_212 (by decide) ?_
              refine lv_bipush (v := 111) hx hb dX12_board_214 (by decide) ?_
              refine lv_bipush (v := 114) hx hb dX12_board_216 (by decide) ?_
              refine lv_bipush (v := 101) hx hb dX12_board_218 (by decide) ?_
              refine lv_iconst (v := 0) hx hb dX12_board_220 (by decide) ?_
              refine lv_iconst (v := 0) hx hb dX12_board_221 (by decide) ?_
              refine lv_iconst (v := 0) hx hb dX12_board_222 (by decide) ?_
              refine va_calll (va_runS (As := [.int 109, .int 111, .int 114, .int 101, .int 0, .int 0, .int 0]) (rest := [.ref (ar 0)]) ⟨hx, hb, hml, hown, hts⟩ (m_spelt_more l dC dI ar cy _ hN st52 sl53  hG.1) (va_cwS 7 hts gX12_board_X12_spelt rfl rfl rfl (by decide +kernel) ⟨Nat.le_of_ble_eq_true rfl, Nat.le_of_ble_eq_true rfl⟩) ⟨fun a U g mk q => ⟨q.1, mPre.blind q.2⟩, fun U hU hW => ⟨rfl, mPre.of hP hK hU hW⟩⟩ rfl rfl hl.1 rfl (lv_room (Nat.le_of_ble_eq_true rfl)) dX12_board_223 ⟨Nat.le_of_ble_eq_true rfl, Nat.le_of_ble_eq_true rfl⟩) hS (fun q _ h => MA.le hS.1 q h) (MA.le hS.1) (fun r57 x t H locs ht hvm hw hB _ _ hS => ?_)
              have hP := mB.at ht hB
              clear hB ht hvm
              obtain ⟨rfl, hw⟩ := hw
              have hP : va_P (dC, dI) vwCl (mw ar cy st52 sl53) _ := hP
              obtain rfl := hw
              refine va_callv (va_runV (As := [.long 267305]) (rest := []) ⟨hx, hb, hml, hown, hts⟩ (m_writeNext3 l dC dI ar cy _ hN st52 sl53 267305 n54  hG.1 (by rw [hf55]) (by omega) (by decide)) (cwV 1 hts gX12_board_X12_writeNext rfl rfl rfl (by decide +kernel) ⟨Nat.le_of_ble_eq_true rfl, Nat.le_of_ble_eq_true rfl⟩) ⟨fun a U g mk q => ⟨q.1, mPre.blind q.2⟩, va_recv hK hP (ci := 11) (q0 := 0) rfl rfl, fun U hU hW => ⟨rfl, mPre.of hP hK hU hW⟩⟩ rfl rfl hl.1 rfl (lv_room (Nat.le_of_ble_eq_true rfl)) dX12_board_226 ⟨Nat.le_of_ble_eq_true rfl, Nat.le_of_ble_eq_true rfl⟩) hS (fun q _ h => MA.le hS.1 q h) (MA.le hS.1) (fun x t H locs ht hvm hw hB _ _ hS => ?_)
              have hP := mB.at ht hB
              clear hB ht hvm
              obtain ⟨st59, sl60⟩ := x
              obtain ⟨hG2, hL2, hw⟩ := hw
              have hL : LQ [7, 9] sl sl60 := hL.tr hL2 (by decide)
              clear hL2
              dsimp only at hw
              have hP : va_P (dC, dI) vwCl (mw ar cy st59 sl60) _ := hP
              have hG : MG [1, 2, 3, 4, 5, 6, 7, 8, 9, 10, 11, 12, 13, 14, 16, 17, 19, 20, 21, 22, 23] st st59 := hG.tr hG2 (by decide)
              have hGst59 : MG [1, 2, 3, 4, 5, 6, 7, 8, 9, 10, 11, 12, 13, 14, 16, 17, 19, 20, 21, 22, 23] st52 st59 := hG2
              clear hG2
              obtain ⟨n61, hf62, hf63⟩ := hw
              refine lv_aload_n hx hb dX12_board_229 rfl (lv_at hl 3 rfl) ?_
              refine va_get (D := (dC, dI)) (ci := 11) (v := .int (st59 0 37)) (C := RX12) (T := TX12) (N := 47) hx hb hts ii_X12_board hown hK hP 0 rfl rfl 37 (by decide) (hts _ mm_X12_board_2) (fun _ hh => hh) rfl dX12_board_230 ?_
              refine zz_top (v := (nI n61)) (by show st59 0 37 = _; rw [hf62]) ?_
              exact W.iret (v := (nI n61)) hx hb hr (fun t ht hW => ⟨⟨(nI n61), (st59, sl60), rfl, ⟨hG, hL, trivial⟩, mB.of ht hP⟩, hS.F ht⟩) hS.2.2 dX12_board_233
          · have c6 : ¬ k33 ≤ k25 := fun hh => c6 ((nI_leI (a := k33) (b := k25) (by omega) (by omega)).mpr hh)
            refine lv_aload_n hx hb dX12_board_161 rfl (lv_at hl 3 rfl) ?_
            refine lv_bipush (v := 116) hx hb dX12_board_162 (by decide) ?_
            refine lv_bipush (v := 111) hx hb dX12_board_164 (by decide) ?_
            refine lv_iconst (v := 0) hx hb dX12_board_166 (by decide) ?_
            refine lv_iconst (v := 0) hx hb dX12_board_167 (by decide) ?_
            refine lv_iconst (v := 0) hx hb dX12_board_168 (by decide) ?_
            refine lv_iconst (v := 0) hx hb dX12_board_169 (by decide) ?_
            refine lv_iconst (v := 0) hx hb dX12_board_170 (by decide) ?_
            refine va_calll (va_runS (As := [.int 116, .int 111, .int 0, .int 0, .int 0, .int 0, .int 0]) (rest := [.ref (ar 0)]) ⟨hx, hb, hml, hown, hts⟩ (m_spelt_to l dC dI ar cy _ hN st42 sl43  hG.1) (va_cwS 7 hts gX12_board_X12_spelt rfl rfl rfl (by decide +kernel) ⟨Nat.le_of_ble_eq_true rfl, Nat.le_of_ble_eq_true rfl⟩) ⟨fun a U g mk q => ⟨q.1, mPre.blind q.2⟩, fun U hU hW => ⟨rfl, mPre.of hP hK hU hW⟩⟩ rfl rfl hl.1 rfl (lv_room (Nat.le_of_ble_eq_true rfl)) dX12_board_171 ⟨Nat.le_of_ble_eq_true rfl, Nat.le_of_ble_eq_true rfl⟩) hS (fun q _ h => MA.le hS.1 q h) (MA.le hS.1) (fun r64 x t H locs ht hvm hw hB _ _ hS => ?_)
            have hP := mB.at ht hB
            clear hB ht hvm
            obtain ⟨rfl, hw⟩ := hw
            have hP : va_P (dC, dI) vwCl (mw ar cy st42 sl43) _ := hP
            obtain rfl := hw
            refine va_callv (va_runV (As := [.long 555]) (rest := []) ⟨hx, hb, hml, hown, hts⟩ (m_writeNext1 l dC dI ar cy _ hN st42 sl43 555 n44  hG.1 (by rw [hf45]) (by omega) (by decide)) (cwV 1 hts gX12_board_X12_writeNext rfl rfl rfl (by decide +kernel) ⟨Nat.le_of_ble_eq_true rfl, Nat.le_of_ble_eq_true rfl⟩) ⟨fun a U g mk q => ⟨q.1, mPre.blind q.2⟩, va_recv hK hP (ci := 11) (q0 := 0) rfl rfl, fun U hU hW => ⟨rfl, mPre.of hP hK hU hW⟩⟩ rfl rfl hl.1 rfl (lv_room (Nat.le_of_ble_eq_true rfl)) dX12_board_174 ⟨Nat.le_of_ble_eq_true rfl, Nat.le_of_ble_eq_true rfl⟩) hS (fun q _ h => MA.le hS.1 q h) (MA.le hS.1) (fun x t H locs ht hvm hw hB _ _ hS => ?_)
            have hP := mB.at ht hB
            clear hB ht hvm
            obtain ⟨st66, sl67⟩ := x
            obtain ⟨hG2, hL2, hw⟩ := hw
            have hL : LQ [7, 9] sl sl67 := hL.tr hL2 (by decide)
            clear hL2
            dsimp only at hw
            have hP : va_P (dC, dI) vwCl (mw ar cy st66 sl67) _ := hP
            have hG : MG [1, 2, 3, 4, 5, 6, 7, 8, 9, 10, 11, 12, 13, 14, 16, 17, 19, 20, 21, 22, 23] st st66 := hG.tr hG2 (by decide)
            have hGst66 : MG [1, 2, 3, 4, 5, 6, 7, 8, 9, 10, 11, 12, 13, 14, 16, 17, 19, 20, 21, 22, 23] st42 st66 := hG2
            clear hG2
            obtain ⟨n68, hf69, hf70⟩ := hw
            refine lv_aload_n hx hb dX12_board_177 rfl (lv_at hl 3 rfl) ?_
            refine lv_bipush (v := 32) hx hb dX12_board_178 (by decide) ?_
            refine va_callv (va_runV (As := [.int 32]) (rest := []) ⟨hx, hb, hml, hown, hts⟩ (m_write l dC dI ar cy _ hN st66 sl67 32 n68  hG.1 (by rw [hf69]) (by omega)) (cwV 1 hts gX12_board_X12_write rfl rfl rfl (by decide +kernel) ⟨Nat.le_of_ble_eq_true rfl, Nat.le_of_ble_eq_true rfl⟩) ⟨fun a U g mk q => ⟨q.1, mPre.blind q.2⟩, va_recv hK hP (ci := 11) (q0 := 0) rfl rfl, fun U hU hW => ⟨rfl, mPre.of hP hK hU hW⟩⟩ rfl rfl hl.1 rfl (lv_room (Nat.le_of_ble_eq_true rfl)) dX12_board_180 ⟨Nat.le_of_ble_eq_true rfl, Nat.le_of_ble_eq_true rfl⟩) hS (fun q _ h => MA.le hS.1 q h) (MA.le hS.1) (fun x t H locs ht hvm hw hB _ _ hS => ?_)
            have hP := mB.at ht hB
            clear hB ht hvm
            obtain ⟨st72, sl73⟩ := x
            obtain ⟨hG2, hL2, hw⟩ := hw
            have hL : LQ [7, 9] sl sl73 := hL.tr hL2 (by decide)
            clear hL2
            dsimp only at hw
            have hP : va_P (dC, dI) vwCl (mw ar cy st72 sl73) _ := hP
            have hG : MG [1, 2, 3, 4, 5, 6, 7, 8, 9, 10, 11, 12, 13, 14, 16, 17, 19, 20, 21, 22, 23] st st72 := hG.tr hG2 (by decide)
            have hGst72 : MG [1, 2, 3, 4, 5, 6, 7, 8, 9, 10, 11, 12, 13, 14, 16, 17, 19, 20, 21, 22, 23] st66 st72 := hG2
            clear hG2
            have hf74 := hw
            refine lv_aload_n hx hb dX12_board_183 rfl (lv_at hl 3 rfl) ?_
            refine lv_iload hx hb dX12_board_184 (lv_at hl 0 rfl) ?_
            refine va_callv (va_runV (As := [.int (nI k33)]) (rest := []) ⟨hx, hb, hml, hown, hts⟩ (m_writeNumber1 l dC dI ar cy _ hN st72 sl73 k33 (n68 + 1) (by omega) hG.1 (by rw [hf74]) (by omega)) (cwV 1 hts gX12_board_X12_writeNumber rfl rfl rfl (by decide +kernel) ⟨Nat.le_of_ble_eq_true rfl, Nat.le_of_ble_eq_true rfl⟩) ⟨fun a U g mk q => ⟨q.1, mPre.blind q.2⟩, va_recv hK hP (ci := 11) (q0 := 0) rfl rfl, fun U hU hW => ⟨rfl, mPre.of hP hK hU hW⟩⟩ rfl rfl hl.1 rfl (lv_room (Nat.le_of_ble_eq_true rfl)) dX12_board_186 ⟨Nat.le_of_ble_eq_true rfl, Nat.le_of_ble_eq_true rfl⟩) hS (fun q _ h => MA.le hS.1 q h) (MA.le hS.1) (fun x t H locs ht hvm hw hB _ _ hS => ?_)
            have hP := mB.at ht hB
            clear hB ht hvm
            obtain ⟨st76, sl77⟩ := x
            obtain ⟨hG2, hL2, hw⟩ := hw
            have hL : LQ [7, 9] sl sl77 := hL.tr hL2 (by decide)
            clear hL2
            dsimp only at hw
            have hP : va_P (dC, dI) vwCl (mw ar cy st76 sl77) _ := hP
            have hG : MG [1, 2, 3, 4, 5, 6, 7, 8, 9, 10, 11, 12, 13, 14, 16, 17, 19, 20, 21, 22, 23] st st76 := hG.tr hG2 (by decide)
            have hGst76 : MG [1, 2, 3, 4, 5, 6, 7, 8, 9, 10, 11, 12, 13, 14, 16, 17, 19, 20, 21, 22, 23] st72 st76 := hG2
            clear hG2
            obtain ⟨n78, hf79, hf80⟩ := hw
            refine lv_iload_n hx hb dX12_board_189 rfl (lv_at hl 2 rfl) ?_
            refine lv_iload_n hx hb dX12_board_190 rfl (lv_at hl 1 rfl) ?_
            refine lv_iload hx hb dX12_board_191 (lv_at hl 0 rfl) ?_
            refine va_calli (va_runS (As := [.int (nI k25), .int (nI k33)]) (rest := [.int (nI n13)]) ⟨hx, hb, hml, hown, hts⟩ (m_hoursIn l dC dI ar cy _ hN st76 sl77 (nI k25) (nI k33)  hG.1) (va_cwS 2 hts gX12_board_X12_hoursIn rfl rfl rfl (by decide +kernel) ⟨Nat.le_of_ble_eq_true rfl, Nat.le_of_ble_eq_true rfl⟩) ⟨fun a U g mk q => ⟨q.1, mPre.blind q.2⟩, fun U hU hW => ⟨rfl, mPre.of hP hK hU hW⟩⟩ rfl rfl hl.1 rfl (lv_room (Nat.le_of_ble_eq_true rfl)) dX12_board_193 ⟨Nat.le_of_ble_eq_true rfl, Nat.le_of_ble_eq_true rfl⟩) hS (fun q _ h => MA.le hS.1 q h) (MA.le hS.1) (fun r81 x t H locs ht hvm hw hB _ _ hS => ?_)
            have hP := mB.at ht hB
            clear hB ht hvm
            obtain ⟨rfl, hw⟩ := hw
            have hP : va_P (dC, dI) vwCl (mw ar cy st76 sl77) _ := hP
            clear hw
            refine lv_iconst (v := (-1)) hx hb dX12_board_196 (by decide) ?_
            refine lv_ixor hx hb dX12_board_197 ?_
            refine lv_topi (fun z82 ez82 => ?_)
            refine lv_iand hx hb dX12_board_198 ?_
            refine lv_topi (fun z83 ez83 => ?_)
            refine lv_if_eq (tgt := 229) hx hb dX12_board_199 (by decide) (fun c8 => ?_) (fun c8 => ?_)
            · refine lv_aload_n hx hb dX12_board_229 rfl (lv_at hl 3 rfl) ?_
              refine va_get (D := (dC, dI)) (ci := 11) (v := .int (st76 0 37)) (C := RX12) (T := TX12) (N := 47) hx hb hts ii_X12_board hown hK hP 0 rfl rfl 37 (by decide) (hts _ mm_X12_board_2) (fun _ hh => hh) rfl dX12_board_230 ?_
              refine zz_top (v := (nI n78)) (by show st76 0 37 = _; rw [hf79]) ?_
              exact W.iret (v := (nI n78)) hx hb hr (fun t ht hW => ⟨⟨(nI n78), (st76, sl77), rfl, ⟨hG, hL, trivial⟩, mB.of ht hP⟩, hS.F ht⟩) hS.2.2 dX12_board_233
            · refine lv_aload_n hx hb dX12_board_202 rfl (lv_at hl 3 rfl) ?_
              refine lv_bipush (v := 14) hx hb dX12_board_203 (by decide) ?_
              refine va_calll (va_runS (As := [.int 14]) (rest := [.ref (ar 0)]) ⟨hx, hb, hml, hown, hts⟩ (m_wordOf14 l dC dI ar cy _ hN st76 sl77  hG.1) (va_cwS 1 hts gX12_board_X12_wordOf rfl rfl rfl (by decide +kernel) ⟨Nat.le_of_ble_eq_true rfl, Nat.le_of_ble_eq_true rfl⟩) ⟨fun a U g mk q => ⟨q.1, mPre.blind q.2⟩, fun U hU hW => ⟨rfl, mPre.of hP hK hU hW⟩⟩ rfl rfl hl.1 rfl (lv_room (Nat.le_of_ble_eq_true rfl)) dX12_board_205 ⟨Nat.le_of_ble_eq_true rfl, Nat.le_of_ble_eq_true rfl⟩) hS (fun q _ h => MA.le hS.1 q h) (MA.le hS.1) (fun r84 x t H locs ht hvm hw hB _ _ hS => ?_)
              have hP := mB.at ht hB
              clear hB ht hvm
              obtain ⟨rfl, hw⟩ := hw
              have hP : va_P (dC, dI) vwCl (mw ar cy st76 sl77) _ := hP
              obtain rfl := hw
              refine va_callv (va_runV (As := [.long 1111]) (rest := []) ⟨hx, hb, hml, hown, hts⟩ (m_writeNext2 l dC dI ar cy _ hN st76 sl77 1111 n78  hG.1 (by rw [hf79]) (by omega) (by decide)) (cwV 1 hts gX12_board_X12_writeNext rfl rfl rfl (by decide +kernel) ⟨Nat.le_of_ble_eq_true rfl, Nat.le_of_ble_eq_true rfl⟩) ⟨fun a U g mk q => ⟨q.1, mPre.blind q.2⟩, va_recv hK hP (ci := 11) (q0 := 0) rfl rfl, fun U hU hW => ⟨rfl, mPre.of hP hK hU hW⟩⟩ rfl rfl hl.1 rfl (lv_room (Nat.le_of_ble_eq_true rfl)) dX12_board_208 ⟨Nat.le_of_ble_eq_true rfl, Nat.le_of_ble_eq_true rfl⟩) hS (fun q _ h => MA.le hS.1 q h) (MA.le hS.1) (fun x t H locs ht hvm hw hB _ _ hS => ?_)
              have hP := mB.at ht hB
              clear hB ht hvm
              obtain ⟨st86, sl87⟩ := x
              obtain ⟨hG2, hL2, hw⟩ := hw
              have hL : LQ [7, 9] sl sl87 := hL.tr hL2 (by decide)
              clear hL2
              dsimp only at hw
              have hP : va_P (dC, dI) vwCl (mw ar cy st86 sl87) _ := hP
              have hG : MG [1, 2, 3, 4, 5, 6, 7, 8, 9, 10, 11, 12, 13, 14, 16, 17, 19, 20, 21, 22, 23] st st86 := hG.tr hG2 (by decide)
              have hGst86 : MG [1, 2, 3, 4, 5, 6, 7, 8, 9, 10, 11, 12, 13, 14, 16, 17, 19, 20, 21, 22, 23] st76 st86 := hG2
              clear hG2
              obtain ⟨n88, hf89, hf90⟩ := hw
              refine lv_aload_n hx hb dX12_board_211 rfl (lv_at hl 3 rfl) ?_
              refine lv_bipush (v := 109) hx hb dX12_board_212 (by decide) ?_
              refine lv_bipush (v := 111) hx hb dX12_board_214 (by decide) ?_
              refine lv_bipush (v := 114) hx hb dX12_board_216 (by decide) ?_
              refine lv_bipush (v := 101) hx hb dX12_board_218 (by decide) ?_
              refine lv_iconst (v := 0) hx hb dX12_board_220 (by decide) ?_
              refine lv_iconst (v := 0) hx hb dX12_board_221 (by decide) ?_
              refine lv_iconst (v := 0) hx hb dX12_board_222 (by decide) ?_
              refine va_calll (va_runS (As := [.int 109, .int 111, .int 114, .int 101, .int 0, .int 0, .int 0]) (rest := [.ref (ar 0)]) ⟨hx, hb, hml, hown, hts⟩ (m_spelt_more l dC dI ar cy _ hN st86 sl87  hG.1) (va_cwS 7 hts gX12_board_X12_spelt rfl rfl rfl (by decide +kernel) ⟨Nat.le_of_ble_eq_true rfl, Nat.le_of_ble_eq_true rfl⟩) ⟨fun a U g mk q => ⟨q.1, mPre.blind q.2⟩, fun U hU hW => ⟨rfl, mPre.of hP hK hU hW⟩⟩ rfl rfl hl.1 rfl (lv_room (Nat.le_of_ble_eq_true rfl)) dX12_board_223 ⟨Nat.le_of_ble_eq_true rfl, Nat.le_of_ble_eq_true rfl⟩) hS (fun q _ h => MA.le hS.1 q h) (MA.le hS.1) (fun r91 x t H locs ht hvm hw hB _ _ hS => ?_)
              have hP := mB.at ht hB
              clear hB ht hvm
              obtain ⟨rfl, hw⟩ := hw
              have hP : va_P (dC, dI) vwCl (mw ar cy st86 sl87) _ := hP
              obtain rfl := hw
              refine va_callv (va_runV (As := [.long 267305]) (rest := []) ⟨hx, hb, hml, hown, hts⟩ (m_writeNext3 l dC dI ar cy _ hN st86 sl87 267305 n88  hG.1 (by rw [hf89]) (by omega) (by decide)) (cwV 1 hts gX12_board_X12_writeNext rfl rfl rfl (by decide +kernel) ⟨Nat.le_of_ble_eq_true rfl, Nat.le_of_ble_eq_true rfl⟩) ⟨fun a U g mk q => ⟨q.1, mPre.blind q.2⟩, va_recv hK hP (ci := 11) (q0 := 0) rfl rfl, fun U hU hW => ⟨rfl, mPre.of hP hK hU hW⟩⟩ rfl rfl hl.1 rfl (lv_room (Nat.le_of_ble_eq_true rfl)) dX12_board_226 ⟨Nat.le_of_ble_eq_true rfl, Nat.le_of_ble_eq_true rfl⟩) hS (fun q _ h => MA.le hS.1 q h) (MA.le hS.1) (fun x t H locs ht hvm hw hB _ _ hS => ?_)
              have hP := mB.at ht hB
              clear hB ht hvm
              obtain ⟨st93, sl94⟩ := x
              obtain ⟨hG2, hL2, hw⟩ := hw
              have hL : LQ [7, 9] sl sl94 := hL.tr hL2 (by decide)
              clear hL2
              dsimp only at hw
              have hP : va_P (dC, dI) vwCl (mw ar cy st93 sl94) _ := hP
              have hG : MG [1, 2, 3, 4, 5, 6, 7, 8, 9, 10, 11, 12, 13, 14, 16, 17, 19, 20, 21, 22, 23] st st93 := hG.tr hG2 (by decide)
              have hGst93 : MG [1, 2, 3, 4, 5, 6, 7, 8, 9, 10, 11, 12, 13, 14, 16, 17, 19, 20, 21, 22, 23] st86 st93 := hG2
              clear hG2
              obtain ⟨n95, hf96, hf97⟩ := hw
              refine lv_aload_n hx hb dX12_board_229 rfl (lv_at hl 3 rfl) ?_
              refine va_get (D := (dC, dI)) (ci := 11) (v := .int (st93 0 37)) (C := RX12) (T := TX12) (N := 47) hx hb hts ii_X12_board hown hK hP 0 rfl rfl 37 (by decide) (hts _ mm_X12_board_2) (fun _ hh => hh) rfl dX12_board_230 ?_
              refine zz_top (v := (nI n95)) (by show st93 0 37 = _; rw [hf96]) ?_
              exact W.iret (v := (nI n95)) hx hb hr (fun t ht hW => ⟨⟨(nI n95), (st93, sl94), rfl, ⟨hG, hL, trivial⟩, mB.of ht hP⟩, hS.F ht⟩) hS.2.2 dX12_board_233
      · have hne : ¬ k25 = b0 := fun hh => by rw [← hh, hf32] at eb0; cases eb0
        refine lv_if_ne (tgt := 130) hx hb dX12_board_121 (by decide) (fun cc => absurd (by decide) cc) (fun _ => ?_)
        refine lv_iinc (v := (nI (k25 + 1))) (lv' := [(3, .int (nI (k25 + 1))), (2, .int (nI n13)), (0, .ref (ar 0)), (1, .int (nI n3))]) hx hb dX12_board_124 hl (k := 0) rfl (nI_add k25 1) (by decide) rfl (fun ls hl => ?_)
        refine lv_goto (tgt := 116) hx hb dX12_board_127 (by decide) ?_
        exact ih29 (31 - (k25 + 1)) _ _ _ _ (by omega) ⟨(k25 + 1), rfl, by omega, by omega, by omega, hP, hS, lv_sub hl [0, 1, 2, 3] rfl, rfl⟩
    · have c2 : n13 = 0 := (nI_eq (a := n13) (b := 0) (by omega) (by omega)).mp c2
      refine lv_aload_n hx hb dX12_board_44 rfl (lv_at hl 1 rfl) ?_
      refine lv_bipush (v := 111) hx hb dX12_board_45 (by decide) ?_
      refine lv_bipush (v := 110) hx hb dX12_board_47 (by decide) ?_
      refine lv_iconst (v := 0) hx hb dX12_board_49 (by decide) ?_
      refine lv_iconst (v := 0) hx hb dX12_board_50 (by decide) ?_
      refine lv_iconst (v := 0) hx hb dX12_board_51 (by decide) ?_
      refine lv_iconst (v := 0) hx hb dX12_board_52 (by decide) ?_
      refine lv_iconst (v := 0) hx hb dX12_board_53 (by decide) ?_
      refine va_calll (va_runS (As := [.int 111, .int 110, .int 0, .int 0, .int 0, .int 0, .int 0]) (rest := [.ref (ar 0)]) ⟨hx, hb, hml, hown, hts⟩ (m_spelt_on l dC dI ar cy _ hN st8 sl9  hG.1) (va_cwS 7 hts gX12_board_X12_spelt rfl rfl rfl (by decide +kernel) ⟨Nat.le_of_ble_eq_true rfl, Nat.le_of_ble_eq_true rfl⟩) ⟨fun a U g mk q => ⟨q.1, mPre.blind q.2⟩, fun U hU hW => ⟨rfl, mPre.of hP hK hU hW⟩⟩ rfl rfl hl.1 rfl (lv_room (Nat.le_of_ble_eq_true rfl)) dX12_board_54 ⟨Nat.le_of_ble_eq_true rfl, Nat.le_of_ble_eq_true rfl⟩) hS (fun q _ h => MA.le hS.1 q h) (MA.le hS.1) (fun r98 x t H locs ht hvm hw hB _ _ hS => ?_)
      have hP := mB.at ht hB
      clear hB ht hvm
      obtain ⟨rfl, hw⟩ := hw
      have hP : va_P (dC, dI) vwCl (mw ar cy st8 sl9) _ := hP
      obtain rfl := hw
      refine va_callv (va_runV (As := [.long 419]) (rest := []) ⟨hx, hb, hml, hown, hts⟩ (m_writeNext1 l dC dI ar cy _ hN st8 sl9 419 n10  hG.1 (by rw [hf11]) (by omega) (by decide)) (cwV 1 hts gX12_board_X12_writeNext rfl rfl rfl (by decide +kernel) ⟨Nat.le_of_ble_eq_true rfl, Nat.le_of_ble_eq_true rfl⟩) ⟨fun a U g mk q => ⟨q.1, mPre.blind q.2⟩, va_recv hK hP (ci := 11) (q0 := 0) rfl rfl, fun U hU hW => ⟨rfl, mPre.of hP hK hU hW⟩⟩ rfl rfl hl.1 rfl (lv_room (Nat.le_of_ble_eq_true rfl)) dX12_board_57 ⟨Nat.le_of_ble_eq_true rfl, Nat.le_of_ble_eq_true rfl⟩) hS (fun q _ h => MA.le hS.1 q h) (MA.le hS.1) (fun x t H locs ht hvm hw hB _ _ hS => ?_)
      have hP := mB.at ht hB
      clear hB ht hvm
      obtain ⟨st100, sl101⟩ := x
      obtain ⟨hG2, hL2, hw⟩ := hw
      have hL : LQ [7, 9] sl sl101 := hL.tr hL2 (by decide)
      clear hL2
      dsimp only at hw
      have hP : va_P (dC, dI) vwCl (mw ar cy st100 sl101) _ := hP
      have hG : MG [1, 2, 3, 4, 5, 6, 7, 8, 9, 10, 11, 12, 13, 14, 16, 17, 19, 20, 21, 22, 23] st st100 := hG.tr hG2 (by decide)
      have hGst100 : MG [1, 2, 3, 4, 5, 6, 7, 8, 9, 10, 11, 12, 13, 14, 16, 17, 19, 20, 21, 22, 23] st8 st100 := hG2
      clear hG2
      obtain ⟨n102, hf103, hf104⟩ := hw
      refine lv_aload_n hx hb dX12_board_60 rfl (lv_at hl 1 rfl) ?_
      refine lv_bipush (v := 116) hx hb dX12_board_61 (by decide) ?_
      refine lv_bipush (v := 104) hx hb dX12_board_63 (by decide) ?_
      refine lv_bipush (v := 101) hx hb dX12_board_65 (by decide) ?_
      refine lv_iconst (v := 0) hx hb dX12_board_67 (by decide) ?_
      refine lv_iconst (v := 0) hx hb dX12_board_68 (by decide) ?_
      refine lv_iconst (v := 0) hx hb dX12_board_69 (by decide) ?_
      refine lv_iconst (v := 0) hx hb dX12_board_70 (by decide) ?_
      refine va_calll (va_runS (As := [.int 116, .int 104, .int 101, .int 0, .int 0, .int 0, .int 0]) (rest := [.ref (ar 0)]) ⟨hx, hb, hml, hown, hts⟩ (m_spelt_the l dC dI ar cy _ hN st100 sl101  hG.1) (va_cwS 7 hts gX12_board_X12_spelt rfl rfl rfl (by decide +kernel) ⟨Nat.le_of_ble_eq_true rfl, Nat.le_of_ble_eq_true rfl⟩) ⟨fun a U g mk q => ⟨q.1, mPre.blind q.2⟩, fun U hU hW => ⟨rfl, mPre.of hP hK hU hW⟩⟩ rfl rfl hl.1 rfl (lv_room (Nat.le_of_ble_eq_true rfl)) dX12_board_71 ⟨Nat.le_of_ble_eq_true rfl, Nat.le_of_ble_eq_true rfl⟩) hS (fun q _ h => MA.le hS.1 q h) (MA.le hS.1) (fun r105 x t H locs ht hvm hw hB _ _ hS => ?_)
      have hP := mB.at ht hB
      clear hB ht hvm
      obtain ⟨rfl, hw⟩ := hw
      have hP : va_P (dC, dI) vwCl (mw ar cy st100 sl101) _ := hP
      obtain rfl := hw
      refine va_callv (va_runV (As := [.long 14801]) (rest := []) ⟨hx, hb, hml, hown, hts⟩ (m_writeNext2 l dC dI ar cy _ hN st100 sl101 14801 n102  hG.1 (by rw [hf103]) (by omega) (by decide)) (cwV 1 hts gX12_board_X12_writeNext rfl rfl rfl (by decide +kernel) ⟨Nat.le_of_ble_eq_true rfl, Nat.le_of_ble_eq_true rfl⟩) ⟨fun a U g mk q => ⟨q.1, mPre.blind q.2⟩, va_recv hK hP (ci := 11) (q0 := 0) rfl rfl, fun U hU hW => ⟨rfl, mPre.of hP hK hU hW⟩⟩ rfl rfl hl.1 rfl (lv_room (Nat.le_of_ble_eq_true rfl)) dX12_board_74 ⟨Nat.le_of_ble_eq_true rfl, Nat.le_of_ble_eq_true rfl⟩) hS (fun q _ h => MA.le hS.1 q h) (MA.le hS.1) (fun x t H locs ht hvm hw hB _ _ hS => ?_)
      have hP := mB.at ht hB
      clear hB ht hvm
      obtain ⟨st107, sl108⟩ := x
      obtain ⟨hG2, hL2, hw⟩ := hw
      have hL : LQ [7, 9] sl sl108 := hL.tr hL2 (by decide)
      clear hL2
      dsimp only at hw
      have hP : va_P (dC, dI) vwCl (mw ar cy st107 sl108) _ := hP
      have hG : MG [1, 2, 3, 4, 5, 6, 7, 8, 9, 10, 11, 12, 13, 14, 16, 17, 19, 20, 21, 22, 23] st st107 := hG.tr hG2 (by decide)
      have hGst107 : MG [1, 2, 3, 4, 5, 6, 7, 8, 9, 10, 11, 12, 13, 14, 16, 17, 19, 20, 21, 22, 23] st100 st107 := hG2
      clear hG2
      obtain ⟨n109, hf110, hf111⟩ := hw
      refine lv_aload_n hx hb dX12_board_77 rfl (lv_at hl 1 rfl) ?_
      refine lv_bipush (v := 108) hx hb dX12_board_78 (by decide) ?_
      refine lv_bipush (v := 101) hx hb dX12_board_80 (by decide) ?_
      refine lv_bipush (v := 97) hx hb dX12_board_82 (by decide) ?_
      refine lv_bipush (v := 100) hx hb dX12_board_84 (by decide) ?_
      refine lv_iconst (v := 0) hx hb dX12_board_86 (by decide) ?_
      refine lv_iconst (v := 0) hx hb dX12_board_87 (by decide) ?_
      refine lv_iconst (v := 0) hx hb dX12_board_88 (by decide) ?_
      refine va_calll (va_runS (As := [.int 108, .int 101, .int 97, .int 100, .int 0, .int 0, .int 0]) (rest := [.ref (ar 0)]) ⟨hx, hb, hml, hown, hts⟩ (m_spelt_lead l dC dI ar cy _ hN st107 sl108  hG.1) (va_cwS 7 hts gX12_board_X12_spelt rfl rfl rfl (by decide +kernel) ⟨Nat.le_of_ble_eq_true rfl, Nat.le_of_ble_eq_true rfl⟩) ⟨fun a U g mk q => ⟨q.1, mPre.blind q.2⟩, fun U hU hW => ⟨rfl, mPre.of hP hK hU hW⟩⟩ rfl rfl hl.1 rfl (lv_room (Nat.le_of_ble_eq_true rfl)) dX12_board_89 ⟨Nat.le_of_ble_eq_true rfl, Nat.le_of_ble_eq_true rfl⟩) hS (fun q _ h => MA.le hS.1 q h) (MA.le hS.1) (fun r112 x t H locs ht hvm hw hB _ _ hS => ?_)
      have hP := mB.at ht hB
      clear hB ht hvm
      obtain ⟨rfl, hw⟩ := hw
      have hP : va_P (dC, dI) vwCl (mw ar cy st107 sl108) _ := hP
      obtain rfl := hw
      refine va_callv (va_runV (As := [.long 239872]) (rest := []) ⟨hx, hb, hml, hown, hts⟩ (m_writeNext3 l dC dI ar cy _ hN st107 sl108 239872 n109  hG.1 (by rw [hf110]) (by omega) (by decide)) (cwV 1 hts gX12_board_X12_writeNext rfl rfl rfl (by decide +kernel) ⟨Nat.le_of_ble_eq_true rfl, Nat.le_of_ble_eq_true rfl⟩) ⟨fun a U g mk q => ⟨q.1, mPre.blind q.2⟩, va_recv hK hP (ci := 11) (q0 := 0) rfl rfl, fun U hU hW => ⟨rfl, mPre.of hP hK hU hW⟩⟩ rfl rfl hl.1 rfl (lv_room (Nat.le_of_ble_eq_true rfl)) dX12_board_92 ⟨Nat.le_of_ble_eq_true rfl, Nat.le_of_ble_eq_true rfl⟩) hS (fun q _ h => MA.le hS.1 q h) (MA.le hS.1) (fun x t H locs ht hvm hw hB _ _ hS => ?_)
      have hP := mB.at ht hB
      clear hB ht hvm
      obtain ⟨st114, sl115⟩ := x
      obtain ⟨hG2, hL2, hw⟩ := hw
      have hL : LQ [7, 9] sl sl115 := hL.tr hL2 (by decide)
      clear hL2
      dsimp only at hw
      have hP : va_P (dC, dI) vwCl (mw ar cy st114 sl115) _ := hP
      have hG : MG [1, 2, 3, 4, 5, 6, 7, 8, 9, 10, 11, 12, 13, 14, 16, 17, 19, 20, 21, 22, 23] st st114 := hG.tr hG2 (by decide)
      have hGst114 : MG [1, 2, 3, 4, 5, 6, 7, 8, 9, 10, 11, 12, 13, 14, 16, 17, 19, 20, 21, 22, 23] st107 st114 := hG2
      clear hG2
      obtain ⟨n116, hf117, hf118⟩ := hw
      refine lv_aload_n hx hb dX12_board_95 rfl (lv_at hl 1 rfl) ?_
      refine va_get (D := (dC, dI)) (ci := 11) (v := .int (st114 0 37)) (C := RX12) (T := TX12) (N := 47) hx hb hts ii_X12_board hown hK hP 0 rfl rfl 37 (by decide) (hts _ mm_X12_board_2) (fun _ hh => hh) rfl dX12_board_96 ?_
      refine zz_top (v := (nI n116)) (by show st114 0 37 = _; rw [hf117]) ?_
      exact W.iret (v := (nI n116)) hx hb hr (fun t ht hW => ⟨⟨(nI n116), (st114, sl115), rfl, ⟨hG, hL, trivial⟩, mB.of ht hP⟩, hS.F ht⟩) hS.2.2 dX12_board_99
  · refine lv_if_ne (tgt := 15) hx hb dX12_board_10 (by decide) (fun cc => absurd (by decide) cc) (fun _ => ?_)
    refine lv_iconst (v := (-1)) hx hb dX12_board_13 (by decide) ?_
    exact W.iret (v := (-1)) hx hb hr (fun t ht hW => ⟨⟨(-1), (st1, sl), rfl, ⟨hG, hL, trivial⟩, mB.of ht hP⟩, hS.F ht⟩) hS.2.2 dX12_board_14
set_option maxHeartbeats 4000000 in
set_option maxRecDepth 100000 in
theorem m_commonLong (l : Launch) (dC : Nat → ClassId) (dI : Nat → Nat → Nat) (ar : Nat → Nat) (cy : Nat → ClassId) (sz : Nat) (hN : MN ar) (st : Nat → Nat → Int32) (sl : Nat → Nat → Int64) (va : Int64) (vb : Int64) (hI : MI st) : Met l yX12_commonLong wsX12_commonLong ({ frames := 0, cells := 0, slots := 0, locals := 0 }) (va_Pc [.long va, .long vb] (mPre dC dI ar cy sz st sl)) (va_Ql (fun (r : Int64) (x : MT) => x = (st, sl) ∧ (CG va vb r)) (mB dC dI ar cy) (MA ar sz)) 0 0 (MA ar sz) := by
  refine Met.ofW (cc := cX12_commonLong) (maxL := 10) (ret := (some .long)) (by decide) rfl ?_
  intro p e s m args below meth c s₁ B hml hv
  obtain ⟨rfl, hsz, hP, hK⟩ := hv
  have hx := B.exec
  have hb := B.bytes
  have hr := B.returns
  have hts := atoms_spec (ws := wsX12_commonLong) B.pre
  have hown : s.vm.findClass RX12 = some m.cls := findClass_of_methodNamed B.named
  subst hsz
  have hS : va_S (MA ar s.heap.size) s.heap s.heap [] := va_S.rf
  have hG : MG [1, 2, 3, 4, 5, 6, 7, 8, 9, 10, 11, 12, 13, 14, 15, 16, 17, 19, 20, 21, 22, 23] st st := MG.rf hI
  have hl := lv_entry ([.long va, .long vb]) (n := 10) (Nat.le_of_ble_eq_true rfl)
  rw [lg_entry_eq]
  generalize (lg_sl ([.long va, .long vb]) ++ List.replicate (10 - (lg_sl ([.long va, .long vb])).length) Slot.unset).toArray = ls at hl ⊢
  have hl : lv_has ls 10 [(0, .long va), (2, .long vb)] := hl
  clear hI
  refine lv_lload_n hx hb dX12_commonLong_0 rfl (lv_at hl 0 rfl) ?_
  refine lv_lstore (lv' := [(4, .long va), (0, .long va), (2, .long vb)]) hx hb dX12_commonLong_1 hl (by decide) rfl (fun ls hl => ?_)
  refine lv_lload_n hx hb dX12_commonLong_3 rfl (lv_at hl 2 rfl) ?_
  refine lv_lstore (lv' := [(6, .long vb), (4, .long va), (0, .long va), (2, .long vb)]) hx hb dX12_commonLong_4 hl (by decide) rfl (fun ls hl => ?_)
  refine zz_wf (fun n stk H locs ls => ∃ z1 : Int64, ∃ z2 : Int64, n = z1.toInt.natAbs ∧ CI va vb z2 z1 ∧ va_P (dC, dI) vwCl (mw ar cy st sl) H ∧ va_S (MA ar s.heap.size) s.heap H locs ∧ lv_has ls 10 [(6, .long z1), (4, .long z2), (0, .long va), (2, .long vb)] ∧ stk = []) ?_ (vb.toInt.natAbs) _ _ _ _ ⟨vb, va, rfl, CI.rf va vb, hP, hS, lv_sub hl [0, 1, 2, 3] rfl, rfl⟩
  rintro nn stk H locs ls ⟨z1, z2, hm3, hv3_0, hP, hS, hl, rfl⟩ ih4
  refine lv_lload hx hb dX12_commonLong_6 (lv_at hl 0 rfl) ?_
  refine lv_lconst (v := 0) hx hb dX12_commonLong_8 (by decide) ?_
  refine W.lcmp hx hb dX12_commonLong_9 ?_
  refine lv_topi (fun z5 ez5 => ?_)
  refine lv_if_eq (tgt := 31) hx hb dX12_commonLong_10 (by decide) (fun c1 => ?_) (fun c1 => ?_)
  · refine lv_lload hx hb dX12_commonLong_31 (lv_at hl 1 rfl) ?_
    exact W.lret (v := z2) hx hb hr (fun t ht hW => ⟨⟨z2, (st, sl), rfl, ⟨rfl, CI.out hv3_0 (lcmp_eq ez5 c1)⟩, mB.of ht hP⟩, hS.F ht⟩) hS.2.2 dX12_commonLong_33
  · refine lv_lload hx hb dX12_commonLong_13 (lv_at hl 1 rfl) ?_
    refine lv_lload hx hb dX12_commonLong_15 (lv_at hl 0 rfl) ?_
    refine lv_lrem hx hb dX12_commonLong_17 (lcmp_ne ez5 c1) ?_
    refine lv_topl (fun z6 ez6 => ?_)
    refine lv_lstore (lv' := [(8, .long z6), (6, .long z1), (4, .long z2), (0, .long va), (2, .long vb)]) hx hb dX12_commonLong_18 hl (by decide) rfl (fun ls hl => ?_)
    refine lv_lload hx hb dX12_commonLong_20 (lv_at hl 1 rfl) ?_
    refine lv_lstore (lv' := [(4, .long z1), (8, .long z6), (6, .long z1), (0, .long va), (2, .long vb)]) hx hb dX12_commonLong_22 hl (by decide) rfl (fun ls hl => ?_)
    refine lv_lload hx hb dX12_commonLong_24 (lv_at hl 1 rfl) ?_
    refine lv_lstore (lv' := [(6, .long z6), (4, .long z1), (8, .long z6), (0, .long va), (2, .long vb)]) hx hb dX12_commonLong_26 hl (by decide) rfl (fun ls hl => ?_)
    refine lv_goto (tgt := 6) hx hb dX12_commonLong_28 (by decide) ?_
    exact ih4 (z6.toInt.natAbs) _ _ _ _ (by rw [hm3]; exact CI.dec (lcmp_ne ez5 c1) (ez6.trans (lrem_eq _ _))) ⟨z6, z1, rfl, CI.step hv3_0 (lcmp_ne ez5 c1) (ez6.trans (lrem_eq _ _)), hP, hS, lv_sub hl [0, 1, 3, 4] rfl, rfl⟩
set_option maxHeartbeats 4000000 in
set_option maxRecDepth 100000 in
theorem m_layPerils (l : Launch) (dC : Nat → ClassId) (dI : Nat → Nat → Nat) (ar : Nat → Nat) (cy : Nat → ClassId) (sz : Nat) (hN : MN ar) (st : Nat → Nat → Int32) (sl : Nat → Nat → Int64) (va : Nat) (hva : va < 8) (hI : MI st) : Met l yX12_layPerils wsX12_layPerils ({ frames := 4, cells := 0, slots := 0, locals := 88 }) (va_Pc [.ref (ar 0), .int (nI va)] (mPre dC dI ar cy sz st sl)) (va_Qi (fun (r : Int32) (x : MT) => MG [1, 2, 3, 4, 5, 6, 7, 8, 9, 10, 11, 12, 13, 14, 15, 16, 17, 19, 20, 21, 22, 23] st x.1 ∧ LQ [7, 9] sl x.2 ∧ (¬ x.2 0 30 = 0)) (mB dC dI ar cy) (MA ar sz)) 0 0 (MA ar sz) := by
  refine Met.ofW (cc := cX12_layPerils) (maxL := 12) (ret := (some .int)) (by decide) rfl ?_
  intro p e s m args below meth c s₁ B hml hv
  obtain ⟨rfl, hsz, hP, hK⟩ := hv
  have hx := B.exec
  have hb := B.bytes
  have hr := B.returns
  have hts := atoms_spec (ws := wsX12_layPerils) B.pre
  have hown : s.vm.findClass RX12 = some m.cls := findClass_of_methodNamed B.named
  subst hsz
  have hS : va_S (MA ar s.heap.size) s.heap s.heap [] := va_S.rf
  have hG : MG [1, 2, 3, 4, 5, 6, 7, 8, 9, 10, 11, 12, 13, 14, 15, 16, 17, 19, 20, 21, 22, 23] st st := MG.rf hI
  have hl := lv_entry ([.ref (ar 0), .int (nI va)]) (n := 12) (Nat.le_of_ble_eq_true rfl)
  rw [lg_entry_eq]
  generalize (lg_sl ([.ref (ar 0), .int (nI va)]) ++ List.replicate (12 - (lg_sl ([.ref (ar 0), .int (nI va)])).length) Slot.unset).toArray = ls at hl ⊢
  have hl : lv_has ls 12 [(0, .ref (ar 0)), (1, .int (nI va))] := hl
  clear hI
  have hL : LQ [7, 9] sl sl := LQ.rf
  refine lv_aload_n hx hb dX12_layPerils_0 rfl (lv_at hl 0 rfl) ?_
  refine lv_lconst (v := 1) hx hb dX12_layPerils_1 (by decide) ?_
  refine va_put (D := (dC, dI)) (ci := 11) (v := .long 1) (ty := .long) (C := RX12) (T := TX12) (N := 47) hx hb hts ii_X12_layPerils tyX12 tyX12_ok nmX12 hown hK hP (mD hN _ _ _ _) hS 0 rfl rfl 29 (by decide) (hts _ mm_X12_layPerils_1) (fun _ hh => hh) rfl (by decide +kernel) rfl rfl (Nat.le_of_ble_eq_true rfl) dX12_layPerils_2 (fun H locs hP _ hS => ?_)
  have hP : va_P (dC, dI) vwCl (mw ar cy st (upL sl 0 29 1)) H := hP
  obtain ⟨sl1, esl1⟩ : ∃ y, y = upL sl 0 29 1 := ⟨_, rfl⟩
  rw [← esl1] at hP
  have hL : LQ [7, 9] sl sl1 := by rw [esl1]; exact hL.up (by decide)
  refine lv_aload_n hx hb dX12_layPerils_5 rfl (lv_at hl 0 rfl) ?_
  refine lv_lconst (v := 1) hx hb dX12_layPerils_6 (by decide) ?_
  refine va_put (D := (dC, dI)) (ci := 11) (v := .long 1) (ty := .long) (C := RX12) (T := TX12) (N := 47) hx hb hts ii_X12_layPerils tyX12 tyX12_ok nmX12 hown hK hP (mD hN _ _ _ _) hS 0 rfl rfl 30 (by decide) (hts _ mm_X12_layPerils_2) (fun _ hh => hh) rfl (by decide +kernel) rfl rfl (Nat.le_of_ble_eq_true rfl) dX12_layPerils_7 (fun H locs hP _ hS => ?_)
  have hP : va_P (dC, dI) vwCl (mw ar cy st (upL sl1 0 30 1)) H := hP
  obtain ⟨sl2, esl2⟩ : ∃ y, y = upL sl1 0 30 1 := ⟨_, rfl⟩
  rw [← esl2] at hP
  have hL : LQ [7, 9] sl sl2 := by rw [esl2]; exact hL.up (by decide)
  refine lv_aload_n hx hb dX12_layPerils_10 rfl (lv_at hl 0 rfl) ?_
  refine va_get (D := (dC, dI)) (ci := 11) (v := .ref (ar 2)) (C := RX12) (T := TX12) (N := 47) hx hb hts ii_X12_layPerils hown hK hP 0 rfl rfl 14 (by decide) (hts _ mm_X12_layPerils_3) (fun _ hh => hh) rfl dX12_layPerils_11 ?_
  refine lv_bipush (v := 71) hx hb dX12_layPerils_14 (by decide) ?_
  refine lv_iload_n hx hb dX12_layPerils_16 rfl (lv_at hl 1 rfl) ?_
  refine lv_iadd hx hb dX12_layPerils_17 ?_
  refine zz_top (v := nI (71 + va)) (nI_add 71 va) ?_
  refine va_iald hx hb hK hP 2 1 rfl rfl (i := (nI (71 + va))) (vp_in_nI (by omega) (by decide)) dX12_layPerils_18 ?_
  obtain ⟨n3, hn3, en3⟩ := hG.1.at (r := 2) (k := (71 + va)) (mr_2_71_79 (71 + va) (by omega) (by omega)) (by decide)
  refine zz_top (v := nI n3) (by rw [nI_clamp (by omega)]; exact en3) ?_
  clear en3
  refine lv_istore_n (lv' := [(2, .int (nI n3)), (0, .ref (ar 0)), (1, .int (nI va))]) hx hb dX12_layPerils_19 rfl hl (by decide) rfl (fun ls hl => ?_)
  refine lv_aload_n hx hb dX12_layPerils_20 rfl (lv_at hl 1 rfl) ?_
  refine va_get (D := (dC, dI)) (ci := 11) (v := .ref (ar 2)) (C := RX12) (T := TX12) (N := 47) hx hb hts ii_X12_layPerils hown hK hP 0 rfl rfl 14 (by decide) (hts _ mm_X12_layPerils_3) (fun _ hh => hh) rfl dX12_layPerils_21 ?_
  refine lv_bipush (v := 95) hx hb dX12_layPerils_24 (by decide) ?_
  refine lv_iload_n hx hb dX12_layPerils_26 rfl (lv_at hl 2 rfl) ?_
  refine lv_iadd hx hb dX12_layPerils_27 ?_
  refine zz_top (v := nI (95 + va)) (nI_add 95 va) ?_
  refine va_iald hx hb hK hP 2 1 rfl rfl (i := (nI (95 + va))) (vp_in_nI (by omega) (by decide)) dX12_layPerils_28 ?_
  refine lv_topi (fun z4 ez4 => ?_)
  clear ez4
  refine lv_istore_n (lv' := [(3, .int z4), (2, .int (nI n3)), (0, .ref (ar 0)), (1, .int (nI va))]) hx hb dX12_layPerils_29 rfl hl (by decide) rfl (fun ls hl => ?_)
  refine lv_aload_n hx hb dX12_layPerils_30 rfl (lv_at hl 2 rfl) ?_
  refine va_get (D := (dC, dI)) (ci := 11) (v := .ref (ar 2)) (C := RX12) (T := TX12) (N := 47) hx hb hts ii_X12_layPerils hown hK hP 0 rfl rfl 14 (by decide) (hts _ mm_X12_layPerils_3) (fun _ hh => hh) rfl dX12_layPerils_31 ?_
  refine lv_bipush (v := 95) hx hb dX12_layPerils_34 (by decide) ?_
  refine lv_iload_n hx hb dX12_layPerils_36 rfl (lv_at hl 3 rfl) ?_
  refine lv_iadd hx hb dX12_layPerils_37 ?_
  refine zz_top (v := nI (95 + va)) (nI_add 95 va) ?_
  refine lv_iconst (v := 0) hx hb dX12_layPerils_38 (by decide) ?_
  refine va_iast hx hb hK hP (mD hN _ _ _ _) hS 2 1 rfl rfl (i := (nI (95 + va))) (vp_in_nI (by omega) (by decide)) dX12_layPerils_39 (fun H locs hP _ hS => ?_)
  rw [nI_clamp (by omega)] at hP
  have hP : va_P (dC, dI) vwCl (mw ar cy (up2 st 2 (95 + va) 0) sl2) H := hP
  obtain ⟨st5, hP, hG⟩ : ∃ y, va_P (dC, dI) vwCl (mw ar cy y sl2) H ∧ MG [1, 2, 3, 4, 5, 6, 7, 8, 9, 10, 11, 12, 13, 14, 15, 16, 17, 19, 20, 21, 22, 23] st y := ⟨up2 st 2 (95 + va) 0, hP, hG.up (rz (mr_2_95_103 (95 + va) (by omega) (by omega))) (pn (pcl_2_95_103 (95 + va) (by omega) (by omega)) (by decide))⟩
  refine lv_aload_n hx hb dX12_layPerils_40 rfl (lv_at hl 2 rfl) ?_
  refine lv_iconst (v := 0) hx hb dX12_layPerils_41 (by decide) ?_
  refine va_put (D := (dC, dI)) (ci := 11) (v := .int 0) (ty := .int) (C := RX12) (T := TX12) (N := 47) hx hb hts ii_X12_layPerils tyX12 tyX12_ok nmX12 hown hK hP (mD hN _ _ _ _) hS 0 rfl rfl 26 (by decide) (hts _ mm_X12_layPerils_4) (fun _ hh => hh) rfl (by decide +kernel) rfl rfl (Nat.le_of_ble_eq_true rfl) dX12_layPerils_42 (fun H locs hP _ hS => ?_)
  have hP : va_P (dC, dI) vwCl (mw ar cy (up2 st5 0 26 0) sl2) H := hP
  obtain ⟨st6, hP, hG⟩ : ∃ y, va_P (dC, dI) vwCl (mw ar cy y sl2) H ∧ MG [1, 2, 3, 4, 5, 6, 7, 8, 9, 10, 11, 12, 13, 14, 15, 16, 17, 19, 20, 21, 22, 23] st y := ⟨up2 st5 0 26 0, hP, hG.up (rz (by decide : mr 0 26 = 0)) (pn (by decide : pcl 0 26 = 0) (by decide))⟩
  refine lv_iconst (v := 0) hx hb dX12_layPerils_45 (by decide) ?_
  refine lv_istore (lv' := [(4, .int 0), (3, .int z4), (2, .int (nI n3)), (0, .ref (ar 0)), (1, .int (nI va))]) hx hb dX12_layPerils_46 hl (by decide) rfl (fun ls hl => ?_)
  refine lv_iconst (v := 0) hx hb dX12_layPerils_48 (by decide) ?_
  refine lv_istore (lv' := [(5, .int 0), (4, .int 0), (3, .int z4), (2, .int (nI n3)), (0, .ref (ar 0)), (1, .int (nI va))]) hx hb dX12_layPerils_49 hl (by decide) rfl (fun ls hl => ?_)
  refine zz_wf (fun n stk H locs ls => ∃ k7 : Nat, ∃ k8 : Nat, ∃ st9 : Nat → Nat → Int32, ∃ sl10 : Nat → Nat → Int64, n = 25 - k7 ∧ 0 ≤ k7 ∧ k7 < 25 ∧ 0 ≤ k8 ∧ k8 < 200 ∧ k8 ≤ 6 * k7 ∧ PS sl10 k8 ∧ va_P (dC, dI) vwCl (mw ar cy st9 sl10) H ∧ MG [1, 2, 3, 4, 5, 6, 7, 8, 9, 10, 11, 12, 13, 14, 15, 16, 17, 19, 20, 21, 22, 23] st st9 ∧ LQ [7, 9] sl sl10 ∧ va_S (MA ar s.heap.size) s.heap H locs ∧ lv_has ls 12 [(5, .int (nI k7)), (4, .int (nI k8)), (3, .int z4), (2, .int (nI n3)), (0, .ref (ar 0)), (1, .int (nI va))] ∧ stk = []) ?_ (25 - 0) _ _ _ _ ⟨0, 0, st6, sl2, rfl, by omega, by omega, by omega, by omega, by omega, PS.init esl1 esl2, hP, hG, hL, hS, lv_sub hl [0, 1, 2, 3, 4, 5] rfl, rfl⟩
  rintro nn stk H locs ls ⟨k7, k8, st9, sl10, hm16, hv11_0, hv12_1, hv13_2, hv14_3, hv15_0, hv16_1, hP, hG, hL, hS, hl, rfl⟩ ih17
  refine lv_iload hx hb dX12_layPerils_51 (lv_at hl 0 rfl) ?_
  refine lv_bipush (v := 24) hx hb dX12_layPerils_53 (by decide) ?_
  refine lv_icmp_ge (tgt := 295) hx hb dX12_layPerils_55 (by decide) (fun c1 => ?_) (fun c1 => ?_)
  · have c1 : 24 ≤ k7 := (nI_leI (a := 24) (b := k7) (by omega) (by omega)).mp c1
    refine lv_aload_n hx hb dX12_layPerils_295 rfl (lv_at hl 4 rfl) ?_
    refine va_get (D := (dC, dI)) (ci := 11) (v := .ref (ar 2)) (C := RX12) (T := TX12) (N := 47) hx hb hts ii_X12_layPerils hown hK hP 0 rfl rfl 14 (by decide) (hts _ mm_X12_layPerils_3) (fun _ hh => hh) rfl dX12_layPerils_296 ?_
    refine lv_bipush (v := 95) hx hb dX12_layPerils_299 (by decide) ?_
    refine lv_iload_n hx hb dX12_layPerils_301 rfl (lv_at hl 5 rfl) ?_
    refine lv_iadd hx hb dX12_layPerils_302 ?_
    refine zz_top (v := nI (95 + va)) (nI_add 95 va) ?_
    refine lv_iload_n hx hb dX12_layPerils_303 rfl (lv_at hl 2 rfl) ?_
    refine va_iast hx hb hK hP (mD hN _ _ _ _) hS 2 1 rfl rfl (i := (nI (95 + va))) (vp_in_nI (by omega) (by decide)) dX12_layPerils_304 (fun H locs hP _ hS => ?_)
    rw [nI_clamp (by omega)] at hP
    have hP : va_P (dC, dI) vwCl (mw ar cy (up2 st9 2 (95 + va) z4) sl10) H := hP
    obtain ⟨st18, hP, hG⟩ : ∃ y, va_P (dC, dI) vwCl (mw ar cy y sl10) H ∧ MG [1, 2, 3, 4, 5, 6, 7, 8, 9, 10, 11, 12, 13, 14, 15, 16, 17, 19, 20, 21, 22, 23] st y := ⟨up2 st9 2 (95 + va) z4, hP, hG.up (rz (mr_2_95_103 (95 + va) (by omega) (by omega))) (pn (pcl_2_95_103 (95 + va) (by omega) (by omega)) (by decide))⟩
    refine lv_iload hx hb dX12_layPerils_305 (lv_at hl 1 rfl) ?_
    exact W.iret (v := (nI k8)) hx hb hr (fun t ht hW => ⟨⟨(nI k8), (st18, sl10), rfl, ⟨hG, hL, PS.nz hv16_1⟩, mB.of ht hP⟩, hS.F ht⟩) hS.2.2 dX12_layPerils_307
  · have c1 : ¬ 24 ≤ k7 := fun hh => c1 ((nI_leI (a := 24) (b := k7) (by omega) (by omega)).mpr hh)
    refine lv_aload_n hx hb dX12_layPerils_58 rfl (lv_at hl 4 rfl) ?_
    refine lv_iload_n hx hb dX12_layPerils_59 rfl (lv_at hl 3 rfl) ?_
    refine va_calli (va_runV (As := [.int (nI n3)]) (rest := []) ⟨hx, hb, hml, hown, hts⟩ (m_isFenced l dC dI ar cy _ hN st9 sl10 (nI n3)  hG.1) (cwV 1 hts gX12_layPerils_X12_isFenced rfl rfl rfl (by decide +kernel) ⟨Nat.le_of_ble_eq_true rfl, Nat.le_of_ble_eq_true rfl⟩) ⟨fun a U g mk q => ⟨q.1, mPre.blind q.2⟩, va_recv hK hP (ci := 11) (q0 := 0) rfl rfl, fun U hU hW => ⟨rfl, mPre.of hP hK hU hW⟩⟩ rfl rfl hl.1 rfl (lv_room (Nat.le_of_ble_eq_true rfl)) dX12_layPerils_60 ⟨Nat.le_of_ble_eq_true rfl, Nat.le_of_ble_eq_true rfl⟩) hS (fun q _ h => MA.le hS.1 q h) (MA.le hS.1) (fun r19 x t H locs ht hvm hw hB _ _ hS => ?_)
    have hP := mB.at ht hB
    clear hB ht hvm
    obtain ⟨rfl, hw⟩ := hw
    have hP : va_P (dC, dI) vwCl (mw ar cy st9 sl10) _ := hP
    rcases hw with rfl | rfl
    · refine lv_if_ne (tgt := 289) hx hb dX12_layPerils_63 (by decide) (fun _ => ?_) (fun cc => absurd cc (by decide))
      refine lv_iinc (v := (nI (k7 + 1))) (lv' := [(5, .int (nI (k7 + 1))), (4, .int (nI k8)), (3, .int z4), (2, .int (nI n3)), (0, .ref (ar 0)), (1, .int (nI va))]) hx hb dX12_layPerils_289 hl (k := 0) rfl (nI_add k7 1) (by decide) rfl (fun ls hl => ?_)
      refine lv_goto (tgt := 51) hx hb dX12_layPerils_292 (by decide) ?_
      exact ih17 (25 - (k7 + 1)) _ _ _ _ (by omega) ⟨(k7 + 1), k8, st9, sl10, rfl, by omega, by omega, by omega, by omega, by omega, hv16_1, hP, hG, hL, hS, lv_sub hl [0, 1, 2, 3, 4, 5] rfl, rfl⟩
    · refine lv_if_ne (tgt := 289) hx hb dX12_layPerils_63 (by decide) (fun cc => absurd (by decide) cc) (fun _ => ?_)
      refine lv_aload_n hx hb dX12_layPerils_66 rfl (lv_at hl 4 rfl) ?_
      refine lv_iload_n hx hb dX12_layPerils_67 rfl (lv_at hl 5 rfl) ?_
      refine va_calli (va_runV (As := [.int (nI va)]) (rest := []) ⟨hx, hb, hml, hown, hts⟩ (m_hoursOf l dC dI ar cy _ hN st9 sl10 va (by omega) hG.1) (cwV 1 hts gX12_layPerils_X12_hoursOf rfl rfl rfl (by decide +kernel) ⟨Nat.le_of_ble_eq_true rfl, Nat.le_of_ble_eq_true rfl⟩) ⟨fun a U g mk q => ⟨q.1, mPre.blind q.2⟩, va_recv hK hP (ci := 11) (q0 := 0) rfl rfl, fun U hU hW => ⟨rfl, mPre.of hP hK hU hW⟩⟩ rfl rfl hl.1 rfl (lv_room (Nat.le_of_ble_eq_true rfl)) dX12_layPerils_68 ⟨Nat.le_of_ble_eq_true rfl, Nat.le_of_ble_eq_true rfl⟩) hS (fun q _ h => MA.le hS.1 q h) (MA.le hS.1) (fun r20 x t H locs ht hvm hw hB _ _ hS => ?_)
      have hP := mB.at ht hB
      clear hB ht hvm
      obtain ⟨rfl, hw⟩ := hw
      have hP : va_P (dC, dI) vwCl (mw ar cy st9 sl10) _ := hP
      clear hw
      refine lv_iload hx hb dX12_layPerils_71 (lv_at hl 0 rfl) ?_
      refine va_calli (va_runS (As := [.int r20, .int (nI k7)]) (rest := []) ⟨hx, hb, hml, hown, hts⟩ (m_hasB l dC dI ar cy _ hN st9 sl10 r20 k7 (by omega) hG.1) (va_cwS 2 hts gX12_layPerils_X12_has rfl rfl rfl (by decide +kernel) ⟨Nat.le_of_ble_eq_true rfl, Nat.le_of_ble_eq_true rfl⟩) ⟨fun a U g mk q => ⟨q.1, mPre.blind q.2⟩, fun U hU hW => ⟨rfl, mPre.of hP hK hU hW⟩⟩ rfl rfl hl.1 rfl (lv_room (Nat.le_of_ble_eq_true rfl)) dX12_layPerils_73 ⟨Nat.le_of_ble_eq_true rfl, Nat.le_of_ble_eq_true rfl⟩) hS (fun q _ h => MA.le hS.1 q h) (MA.le hS.1) (fun r21 x t H locs ht hvm hw hB _ _ hS => ?_)
      have hP := mB.at ht hB
      clear hB ht hvm
      obtain ⟨rfl, hw⟩ := hw
      have hP : va_P (dC, dI) vwCl (mw ar cy st9 sl10) _ := hP
      rcases hw with ⟨rfl, hf22⟩ | ⟨rfl, hf23⟩
      · refine lv_if_eq (tgt := 289) hx hb dX12_layPerils_76 (by decide) (fun cc => absurd cc (by decide)) (fun _ => ?_)
        refine lv_aload_n hx hb dX12_layPerils_79 rfl (lv_at hl 4 rfl) ?_
        refine lv_iload_n hx hb dX12_layPerils_80 rfl (lv_at hl 3 rfl) ?_
        refine lv_iload hx hb dX12_layPerils_81 (lv_at hl 0 rfl) ?_
        refine va_calli (va_runV (As := [.int (nI n3), .int (nI k7)]) (rest := []) ⟨hx, hb, hml, hown, hts⟩ (m_firstThere l dC dI ar cy _ hN st9 sl10 (nI n3) (nI k7)  hG.1) (cwV 2 hts gX12_layPerils_X12_firstThere rfl rfl rfl (by decide +kernel) ⟨Nat.le_of_ble_eq_true rfl, Nat.le_of_ble_eq_true rfl⟩) ⟨fun a U g mk q => ⟨q.1, mPre.blind q.2⟩, va_recv hK hP (ci := 11) (q0 := 0) rfl rfl, fun U hU hW => ⟨rfl, mPre.of hP hK hU hW⟩⟩ rfl rfl hl.1 rfl (lv_room (Nat.le_of_ble_eq_true rfl)) dX12_layPerils_83 ⟨Nat.le_of_ble_eq_true rfl, Nat.le_of_ble_eq_true rfl⟩) hS (fun q _ h => MA.le hS.1 q h) (MA.le hS.1) (fun r24 x t H locs ht hvm hw hB _ _ hS => ?_)
        have hP := mB.at ht hB
        clear hB ht hvm
        obtain ⟨rfl, hw⟩ := hw
        have hP : va_P (dC, dI) vwCl (mw ar cy st9 sl10) _ := hP
        rcases hw with rfl | ⟨n25, rfl, hf26⟩
        · refine lv_iload_n hx hb dX12_layPerils_86 rfl (lv_at hl 5 rfl) ?_
          refine lv_icmp_eq (tgt := 93) hx hb dX12_layPerils_87 (by decide) (fun cc => absurd cc.symm (nI_nem (by omega))) (fun _ => ?_)
          refine lv_goto (tgt := 289) hx hb dX12_layPerils_90 (by decide) ?_
          refine lv_iinc (v := (nI (k7 + 1))) (lv' := [(5, .int (nI (k7 + 1))), (4, .int (nI k8)), (3, .int z4), (2, .int (nI n3)), (0, .ref (ar 0)), (1, .int (nI va))]) hx hb dX12_layPerils_289 hl (k := 0) rfl (nI_add k7 1) (by decide) rfl (fun ls hl => ?_)
          refine lv_goto (tgt := 51) hx hb dX12_layPerils_292 (by decide) ?_
          exact ih17 (25 - (k7 + 1)) _ _ _ _ (by omega) ⟨(k7 + 1), k8, st9, sl10, rfl, by omega, by omega, by omega, by omega, by omega, hv16_1, hP, hG, hL, hS, lv_sub hl [0, 1, 2, 3, 4, 5] rfl, rfl⟩
        · refine lv_iload_n hx hb dX12_layPerils_86 rfl (lv_at hl 5 rfl) ?_
          refine lv_icmp_eq (tgt := 93) hx hb dX12_layPerils_87 (by decide) (fun c6 => ?_) (fun c6 => ?_)
          · have c6 : n25 = va := (nI_eq (a := n25) (b := va) (by omega) (by omega)).mp c6
            refine lv_iconst (v := 0) hx hb dX12_layPerils_93 (by decide) ?_
            refine lv_istore (lv' := [(6, .int 0), (5, .int (nI k7)), (4, .int (nI k8)), (3, .int z4), (2, .int (nI n3)), (0, .ref (ar 0)), (1, .int (nI va))]) hx hb dX12_layPerils_94 hl (by decide) rfl (fun ls hl => ?_)
            refine zz_wf (fun n stk H locs ls => ∃ k27 : Nat, ∃ k28 : Nat, ∃ st29 : Nat → Nat → Int32, ∃ sl30 : Nat → Nat → Int64, n = 7 - k27 ∧ 0 ≤ k27 ∧ k27 < 7 ∧ 0 ≤ k28 ∧ k28 < 200 ∧ k28 ≤ 6 * k7 + k27 ∧ PS sl30 k28 ∧ va_P (dC, dI) vwCl (mw ar cy st29 sl30) H ∧ MG [1, 2, 3, 4, 5, 6, 7, 8, 9, 10, 11, 12, 13, 14, 15, 16, 17, 19, 20, 21, 22, 23] st st29 ∧ LQ [7, 9] sl sl30 ∧ va_S (MA ar s.heap.size) s.heap H locs ∧ lv_has ls 12 [(6, .int (nI k27)), (5, .int (nI k7)), (4, .int (nI k28)), (3, .int z4), (2, .int (nI n3)), (0, .ref (ar 0)), (1, .int (nI va))] ∧ stk = []) ?_ (7 - 0) _ _ _ _ ⟨0, k8, st9, sl10, rfl, by omega, by omega, by omega, by omega, by omega, hv16_1, hP, hG, hL, hS, lv_sub hl [0, 1, 2, 3, 4, 5, 6] rfl, rfl⟩
            rintro nn stk H locs ls ⟨k27, k28, st29, sl30, hm36, hv31_0, hv32_1, hv33_2, hv34_3, hv35_0, hv36_1, hP, hG, hL, hS, hl, rfl⟩ ih37
            refine lv_iload hx hb dX12_layPerils_96 (lv_at hl 0 rfl) ?_
            refine lv_aload_n hx hb dX12_layPerils_98 rfl (lv_at hl 5 rfl) ?_
            refine va_get (D := (dC, dI)) (ci := 11) (v := .ref (ar 2)) (C := RX12) (T := TX12) (N := 47) hx hb hts ii_X12_layPerils hown hK hP 0 rfl rfl 14 (by decide) (hts _ mm_X12_layPerils_3) (fun _ hh => hh) rfl dX12_layPerils_99 ?_
            refine lv_iconst (v := 2) hx hb dX12_layPerils_102 (by decide) ?_
            refine va_iald hx hb hK hP 2 1 rfl rfl (i := 2) (zz_in (by decide)) dX12_layPerils_103 ?_
            obtain ⟨n38, hn38, en38⟩ := hG.1.at (r := 2) (k := 2) (by decide : mr 2 2 = 7) (by decide)
            refine zz_top (v := nI n38) (by exact en38) ?_
            clear en38
            refine lv_icmp_ge (tgt := 289) hx hb dX12_layPerils_104 (by decide) (fun c7 => ?_) (fun c7 => ?_)
            · have c7 : n38 ≤ k27 := (nI_leI (a := n38) (b := k27) (by omega) (by omega)).mp c7
              refine lv_iinc (v := (nI (k7 + 1))) (lv' := [(5, .int (nI (k7 + 1))), (6, .int (nI k27)), (4, .int (nI k28)), (3, .int z4), (2, .int (nI n3)), (0, .ref (ar 0)), (1, .int (nI va))]) hx hb dX12_layPerils_289 hl (k := 1) rfl (nI_add k7 1) (by decide) rfl (fun ls hl => ?_)
              refine lv_goto (tgt := 51) hx hb dX12_layPerils_292 (by decide) ?_
              exact ih17 (25 - (k7 + 1)) _ _ _ _ (by omega) ⟨(k7 + 1), k28, st29, sl30, rfl, by omega, by omega, by omega, by omega, by omega, hv36_1, hP, hG, hL, hS, lv_sub hl [0, 2, 3, 4, 5, 6] rfl, rfl⟩
            · have c7 : ¬ n38 ≤ k27 := fun hh => c7 ((nI_leI (a := n38) (b := k27) (by omega) (by omega)).mpr hh)
              refine lv_aload_n hx hb dX12_layPerils_107 rfl (lv_at hl 5 rfl) ?_
              refine va_get (D := (dC, dI)) (ci := 11) (v := .ref (ar 2)) (C := RX12) (T := TX12) (N := 47) hx hb hts ii_X12_layPerils hown hK hP 0 rfl rfl 14 (by decide) (hts _ mm_X12_layPerils_3) (fun _ hh => hh) rfl dX12_layPerils_108 ?_
              refine lv_bipush (v := 42) hx hb dX12_layPerils_111 (by decide) ?_
              refine lv_iload hx hb dX12_layPerils_113 (lv_at hl 0 rfl) ?_
              refine lv_iadd hx hb dX12_layPerils_115 ?_
              refine zz_top (v := nI (42 + k27)) (nI_add 42 k27) ?_
              refine va_iald hx hb hK hP 2 1 rfl rfl (i := (nI (42 + k27))) (vp_in_nI (by omega) (by decide)) dX12_layPerils_116 ?_
              obtain ⟨n39, hn39, en39⟩ := hG.1.at (r := 2) (k := (42 + k27)) (mr_2_42_48 (42 + k27) (by omega) (by omega)) (by decide)
              refine zz_top (v := nI n39) (by rw [nI_clamp (by omega)]; exact en39) ?_
              clear en39
              refine lv_istore (lv' := [(7, .int (nI n39)), (6, .int (nI k27)), (5, .int (nI k7)), (4, .int (nI k28)), (3, .int z4), (2, .int (nI n3)), (0, .ref (ar 0)), (1, .int (nI va))]) hx hb dX12_layPerils_117 hl (by decide) rfl (fun ls hl => ?_)
              refine lv_aload_n hx hb dX12_layPerils_119 rfl (lv_at hl 6 rfl) ?_
              refine va_get (D := (dC, dI)) (ci := 11) (v := .ref (ar 2)) (C := RX12) (T := TX12) (N := 47) hx hb hts ii_X12_layPerils hown hK hP 0 rfl rfl 14 (by decide) (hts _ mm_X12_layPerils_3) (fun _ hh => hh) rfl dX12_layPerils_120 ?_
              refine lv_bipush (v := 64) hx hb dX12_layPerils_123 (by decide) ?_
              refine va_iald hx hb hK hP 2 1 rfl rfl (i := 64) (zz_in (by decide)) dX12_layPerils_125 ?_
              refine lv_topi (fun z40 ez40 => ?_)
              clear ez40
              refine lv_iload hx hb dX12_layPerils_126 (lv_at hl 1 rfl) ?_
              refine va_calli (va_runS (As := [.int z40, .int (nI k27)]) (rest := []) ⟨hx, hb, hml, hown, hts⟩ (m_hasB l dC dI ar cy _ hN st29 sl30 z40 k27 (by omega) hG.1) (va_cwS 2 hts gX12_layPerils_X12_has rfl rfl rfl (by decide +kernel) ⟨Nat.le_of_ble_eq_true rfl, Nat.le_of_ble_eq_true rfl⟩) ⟨fun a U g mk q => ⟨q.1, mPre.blind q.2⟩, fun U hU hW => ⟨rfl, mPre.of hP hK hU hW⟩⟩ rfl rfl hl.1 rfl (lv_room (Nat.le_of_ble_eq_true rfl)) dX12_layPerils_128 ⟨Nat.le_of_ble_eq_true rfl, Nat.le_of_ble_eq_true rfl⟩) hS (fun q _ h => MA.le hS.1 q h) (MA.le hS.1) (fun r41 x t H locs ht hvm hw hB _ _ hS => ?_)
              have hP := mB.at ht hB
              clear hB ht hvm
              obtain ⟨rfl, hw⟩ := hw
              have hP : va_P (dC, dI) vwCl (mw ar cy st29 sl30) _ := hP
              rcases hw with ⟨rfl, hf42⟩ | ⟨rfl, hf43⟩
              · refine lv_if_ne (tgt := 283) hx hb dX12_layPerils_131 (by decide) (fun _ => ?_) (fun cc => absurd cc (by decide))
                refine lv_iinc (v := (nI (k27 + 1))) (lv' := [(6, .int (nI (k27 + 1))), (7, .int (nI n39)), (5, .int (nI k7)), (4, .int (nI k28)), (3, .int z4), (2, .int (nI n3)), (0, .ref (ar 0)), (1, .int (nI va))]) hx hb dX12_layPerils_283 hl (k := 1) rfl (nI_add k27 1) (by decide) rfl (fun ls hl => ?_)
                refine lv_goto (tgt := 96) hx hb dX12_layPerils_286 (by decide) ?_
                exact ih37 (7 - (k27 + 1)) _ _ _ _ (by omega) ⟨(k27 + 1), k28, st29, sl30, rfl, by omega, by omega, by omega, by omega, by omega, hv36_1, hP, hG, hL, hS, lv_sub hl [0, 2, 3, 4, 5, 6, 7] rfl, rfl⟩
              · refine lv_if_ne (tgt := 283) hx hb dX12_layPerils_131 (by decide) (fun cc => absurd (by decide) cc) (fun _ => ?_)
                refine lv_aload_n hx hb dX12_layPerils_134 rfl (lv_at hl 6 rfl) ?_
                refine lv_iload hx hb dX12_layPerils_135 (lv_at hl 0 rfl) ?_
                refine va_calli (va_runV (As := [.int (nI n39)]) (rest := []) ⟨hx, hb, hml, hown, hts⟩ (m_isAway l dC dI ar cy _ hN st29 sl30 n39 (by omega) hG.1) (cwV 1 hts gX12_layPerils_X12_isAway rfl rfl rfl (by decide +kernel) ⟨Nat.le_of_ble_eq_true rfl, Nat.le_of_ble_eq_true rfl⟩) ⟨fun a U g mk q => ⟨q.1, mPre.blind q.2⟩, va_recv hK hP (ci := 11) (q0 := 0) rfl rfl, fun U hU hW => ⟨rfl, mPre.of hP hK hU hW⟩⟩ rfl rfl hl.1 rfl (lv_room (Nat.le_of_ble_eq_true rfl)) dX12_layPerils_137 ⟨Nat.le_of_ble_eq_true rfl, Nat.le_of_ble_eq_true rfl⟩) hS (fun q _ h => MA.le hS.1 q h) (MA.le hS.1) (fun r44 x t H locs ht hvm hw hB _ _ hS => ?_)
                have hP := mB.at ht hB
                clear hB ht hvm
                obtain ⟨rfl, hw⟩ := hw
                have hP : va_P (dC, dI) vwCl (mw ar cy st29 sl30) _ := hP
                rcases hw with rfl | rfl
                · refine lv_if_ne (tgt := 283) hx hb dX12_layPerils_140 (by decide) (fun _ => ?_) (fun cc => absurd cc (by decide))
                  refine lv_iinc (v := (nI (k27 + 1))) (lv' := [(6, .int (nI (k27 + 1))), (7, .int (nI n39)), (5, .int (nI k7)), (4, .int (nI k28)), (3, .int z4), (2, .int (nI n3)), (0, .ref (ar 0)), (1, .int (nI va))]) hx hb dX12_layPerils_283 hl (k := 1) rfl (nI_add k27 1) (by decide) rfl (fun ls hl => ?_)
                  refine lv_goto (tgt := 96) hx hb dX12_layPerils_286 (by decide) ?_
                  exact ih37 (7 - (k27 + 1)) _ _ _ _ (by omega) ⟨(k27 + 1), k28, st29, sl30, rfl, by omega, by omega, by omega, by omega, by omega, hv36_1, hP, hG, hL, hS, lv_sub hl [0, 2, 3, 4, 5, 6, 7] rfl, rfl⟩
                · refine lv_if_ne (tgt := 283) hx hb dX12_layPerils_140 (by decide) (fun cc => absurd (by decide) cc) (fun _ => ?_)
                  refine lv_aload_n hx hb dX12_layPerils_143 rfl (lv_at hl 6 rfl) ?_
                  refine lv_iload hx hb dX12_layPerils_144 (lv_at hl 0 rfl) ?_
                  refine lv_iload_n hx hb dX12_layPerils_146 rfl (lv_at hl 5 rfl) ?_
                  refine lv_iload hx hb dX12_layPerils_147 (lv_at hl 2 rfl) ?_
                  refine va_calli (va_runV (As := [.int (nI n39), .int (nI n3), .int (nI k7)]) (rest := []) ⟨hx, hb, hml, hown, hts⟩ (m_comesIn l dC dI ar cy _ hN st29 sl30 n39 (nI n3) (nI k7) (by omega) hG.1) (cwV 3 hts gX12_layPerils_X12_comesIn rfl rfl rfl (by decide +kernel) ⟨Nat.le_of_ble_eq_true rfl, Nat.le_of_ble_eq_true rfl⟩) ⟨fun a U g mk q => ⟨q.1, mPre.blind q.2⟩, va_recv hK hP (ci := 11) (q0 := 0) rfl rfl, fun U hU hW => ⟨rfl, mPre.of hP hK hU hW⟩⟩ rfl rfl hl.1 rfl (lv_room (Nat.le_of_ble_eq_true rfl)) dX12_layPerils_149 ⟨Nat.le_of_ble_eq_true rfl, Nat.le_of_ble_eq_true rfl⟩) hS (fun q _ h => MA.le hS.1 q h) (MA.le hS.1) (fun r45 x t H locs ht hvm hw hB _ _ hS => ?_)
                  have hP := mB.at ht hB
                  clear hB ht hvm
                  obtain ⟨rfl, hw⟩ := hw
                  have hP : va_P (dC, dI) vwCl (mw ar cy st29 sl30) _ := hP
                  rcases hw with rfl | rfl
                  · refine lv_if_ne (tgt := 158) hx hb dX12_layPerils_152 (by decide) (fun _ => ?_) (fun cc => absurd cc (by decide))
                    refine lv_iinc (v := (nI (k28 + 1))) (lv' := [(4, .int (nI (k28 + 1))), (7, .int (nI n39)), (6, .int (nI k27)), (5, .int (nI k7)), (3, .int z4), (2, .int (nI n3)), (0, .ref (ar 0)), (1, .int (nI va))]) hx hb dX12_layPerils_158 hl (k := 3) rfl (nI_add k28 1) (by decide) rfl (fun ls hl => ?_)
                    refine lv_iload hx hb dX12_layPerils_161 (lv_at hl 0 rfl) ?_
                    refine lv_bipush (v := 8) hx hb dX12_layPerils_163 (by decide) ?_
                    refine lv_icmp_le (tgt := 171) hx hb dX12_layPerils_165 (by decide) (fun c13 => ?_) (fun c13 => ?_)
                    · have c13 : (k28 + 1) ≤ 8 := (nI_leI (a := (k28 + 1)) (b := 8) (by omega) (by omega)).mp c13
                      refine lv_aload_n hx hb dX12_layPerils_171 rfl (lv_at hl 6 rfl) ?_
                      refine va_get (D := (dC, dI)) (ci := 11) (v := .ref (ar 2)) (C := RX12) (T := TX12) (N := 47) hx hb hts ii_X12_layPerils hown hK hP 0 rfl rfl 14 (by decide) (hts _ mm_X12_layPerils_3) (fun _ hh => hh) rfl dX12_layPerils_172 ?_
                      refine lv_bipush (v := 66) hx hb dX12_layPerils_175 (by decide) ?_
                      refine lv_iload_n hx hb dX12_layPerils_177 rfl (lv_at hl 5 rfl) ?_
                      refine lv_iadd hx hb dX12_layPerils_178 ?_
                      refine zz_top (v := nI (66 + n3)) (nI_add 66 n3) ?_
                      refine va_iald hx hb hK hP 2 1 rfl rfl (i := (nI (66 + n3))) (vp_in_nI (by omega) (by decide)) dX12_layPerils_179 ?_
                      obtain ⟨n46, hn46, en46⟩ := hG.1.at (r := 2) (k := (66 + n3)) (mr_2_66_71 (66 + n3) (by omega) (by omega)) (by decide)
                      refine zz_top (v := nI n46) (by rw [nI_clamp (by omega)]; exact en46) ?_
                      clear en46
                      refine lv_iload hx hb dX12_layPerils_180 (lv_at hl 3 rfl) ?_
                      refine va_calli (va_runS (As := [.int (nI n46), .int (nI k7)]) (rest := []) ⟨hx, hb, hml, hown, hts⟩ (m_hasB l dC dI ar cy _ hN st29 sl30 (nI n46) k7 (by omega) hG.1) (va_cwS 2 hts gX12_layPerils_X12_has rfl rfl rfl (by decide +kernel) ⟨Nat.le_of_ble_eq_true rfl, Nat.le_of_ble_eq_true rfl⟩) ⟨fun a U g mk q => ⟨q.1, mPre.blind q.2⟩, fun U hU hW => ⟨rfl, mPre.of hP hK hU hW⟩⟩ rfl rfl hl.1 rfl (lv_room (Nat.le_of_ble_eq_true rfl)) dX12_layPerils_182 ⟨Nat.le_of_ble_eq_true rfl, Nat.le_of_ble_eq_true rfl⟩) hS (fun q _ h => MA.le hS.1 q h) (MA.le hS.1) (fun r47 x t H locs ht hvm hw hB _ _ hS => ?_)
                      have hP := mB.at ht hB
                      clear hB ht hvm
                      obtain ⟨rfl, hw⟩ := hw
                      have hP : va_P (dC, dI) vwCl (mw ar cy st29 sl30) _ := hP
                      rcases hw with ⟨rfl, hf48⟩ | ⟨rfl, hf49⟩
                      · refine lv_istore (lv' := [(8, .int 1), (4, .int (nI (k28 + 1))), (7, .int (nI n39)), (6, .int (nI k27)), (5, .int (nI k7)), (3, .int z4), (2, .int (nI n3)), (0, .ref (ar 0)), (1, .int (nI va))]) hx hb dX12_layPerils_185 hl (by decide) rfl (fun ls hl => ?_)
                        refine lv_iload hx hb dX12_layPerils_187 (lv_at hl 0 rfl) ?_
                        refine lv_if_eq (tgt := 197) hx hb dX12_layPerils_189 (by decide) (fun cc => absurd cc (by decide)) (fun _ => ?_)
                        refine lv_bipush (v := 12) hx hb dX12_layPerils_192 (by decide) ?_
                        refine lv_goto (tgt := 204) hx hb dX12_layPerils_194 (by decide) ?_
                        refine lv_bipush (v := 12) hx hb dX12_layPerils_204 (by decide) ?_
                        refine lv_aload_n hx hb dX12_layPerils_206 rfl (lv_at hl 7 rfl) ?_
                        refine va_get (D := (dC, dI)) (ci := 11) (v := .ref (ar 2)) (C := RX12) (T := TX12) (N := 47) hx hb hts ii_X12_layPerils hown hK hP 0 rfl rfl 14 (by decide) (hts _ mm_X12_layPerils_3) (fun _ hh => hh) rfl dX12_layPerils_207 ?_
                        refine lv_bipush (v := 48) hx hb dX12_layPerils_210 (by decide) ?_
                        refine lv_iload hx hb dX12_layPerils_212 (lv_at hl 3 rfl) ?_
                        refine lv_iadd hx hb dX12_layPerils_214 ?_
                        refine zz_top (v := nI (48 + k27)) (nI_add 48 k27) ?_
                        refine va_iald hx hb hK hP 2 1 rfl rfl (i := (nI (48 + k27))) (vp_in_nI (by omega) (by decide)) dX12_layPerils_215 ?_
                        obtain ⟨n50, hn50, en50⟩ := hG.1.at (r := 2) (k := (48 + k27)) (mr_2_48_54 (48 + k27) (by omega) (by omega)) (by decide)
                        refine zz_top (v := nI n50) (by rw [nI_clamp (by omega)]; exact en50) ?_
                        clear en50
                        refine lv_isub hx hb dX12_layPerils_216 ?_
                        refine zz_top (v := nI (12 - n50)) (nI_subN (a := 12) (b := n50) (by omega) (by omega)) ?_
                        refine lv_imul hx hb dX12_layPerils_217 ?_
                        refine zz_top (v := nI (12 * (12 - n50))) (nI_mul 12 (12 - n50)) ?_
                        refine lv_istore (lv' := [(9, .int (nI (12 * (12 - n50)))), (8, .int 1), (4, .int (nI (k28 + 1))), (7, .int (nI n39)), (6, .int (nI k27)), (5, .int (nI k7)), (3, .int z4), (2, .int (nI n3)), (0, .ref (ar 0)), (1, .int (nI va))]) hx hb dX12_layPerils_218 hl (by decide) rfl (fun ls hl => ?_)
                        refine lv_aload_n hx hb dX12_layPerils_220 rfl (lv_at hl 8 rfl) ?_
                        refine lv_dup hx hb dX12_layPerils_221 rfl ?_
                        refine va_get (D := (dC, dI)) (ci := 11) (v := .long (sl30 0 29)) (C := RX12) (T := TX12) (N := 47) hx hb hts ii_X12_layPerils hown hK hP 0 rfl rfl 29 (by decide) (hts _ mm_X12_layPerils_1) (fun _ hh => hh) rfl dX12_layPerils_222 ?_
                        refine lv_sipush (v := 144) hx hb dX12_layPerils_225 (by decide) ?_
                        refine lv_iload hx hb dX12_layPerils_228 (lv_at hl 0 rfl) ?_
                        refine lv_isub hx hb dX12_layPerils_230 ?_
                        refine zz_top (v := nI (144 - (12 * (12 - n50)))) (nI_subN (a := 144) (b := (12 * (12 - n50))) (by omega) (by omega)) ?_
                        refine lv_i2l hx hb dX12_layPerils_231 rfl ?_
                        refine lv_topl (fun z51 ez51 => ?_)
                        refine lv_lmul hx hb dX12_layPerils_232 ?_
                        refine lv_topl (fun z52 ez52 => ?_)
                        refine va_put (D := (dC, dI)) (ci := 11) (v := .long z52) (ty := .long) (C := RX12) (T := TX12) (N := 47) hx hb hts ii_X12_layPerils tyX12 tyX12_ok nmX12 hown hK hP (mD hN _ _ _ _) hS 0 rfl rfl 29 (by decide) (hts _ mm_X12_layPerils_1) (fun _ hh => hh) rfl (by decide +kernel) rfl rfl (Nat.le_of_ble_eq_true rfl) dX12_layPerils_233 (fun H locs hP _ hS => ?_)
                        have hP : va_P (dC, dI) vwCl (mw ar cy st29 (upL sl30 0 29 z52)) H := hP
                        obtain ⟨sl53, esl53⟩ : ∃ y, y = upL sl30 0 29 z52 := ⟨_, rfl⟩
                        rw [← esl53] at hP
                        have hL : LQ [7, 9] sl sl53 := by rw [esl53]; exact hL.up (by decide)
                        refine lv_aload_n hx hb dX12_layPerils_236 rfl (lv_at hl 8 rfl) ?_
                        refine lv_dup hx hb dX12_layPerils_237 rfl ?_
                        refine va_get (D := (dC, dI)) (ci := 11) (v := .long (sl53 0 30)) (C := RX12) (T := TX12) (N := 47) hx hb hts ii_X12_layPerils hown hK hP 0 rfl rfl 30 (by decide) (hts _ mm_X12_layPerils_2) (fun _ hh => hh) rfl dX12_layPerils_238 ?_
                        refine lv_ldc2 (v := 144) hx hb hown (hts _ mm_X12_layPerils_5) dX12_layPerils_241 ?_
                        refine lv_lmul hx hb dX12_layPerils_244 ?_
                        refine lv_topl (fun z54 ez54 => ?_)
                        refine va_put (D := (dC, dI)) (ci := 11) (v := .long z54) (ty := .long) (C := RX12) (T := TX12) (N := 47) hx hb hts ii_X12_layPerils tyX12 tyX12_ok nmX12 hown hK hP (mD hN _ _ _ _) hS 0 rfl rfl 30 (by decide) (hts _ mm_X12_layPerils_2) (fun _ hh => hh) rfl (by decide +kernel) rfl rfl (Nat.le_of_ble_eq_true rfl) dX12_layPerils_245 (fun H locs hP _ hS => ?_)
                        have hP : va_P (dC, dI) vwCl (mw ar cy st29 (upL sl53 0 30 z54)) H := hP
                        obtain ⟨sl55, esl55⟩ : ∃ y, y = upL sl53 0 30 z54 := ⟨_, rfl⟩
                        rw [← esl55] at hP
                        have hL : LQ [7, 9] sl sl55 := by rw [esl55]; exact hL.up (by decide)
                        refine lv_aload_n hx hb dX12_layPerils_248 rfl (lv_at hl 8 rfl) ?_
                        refine va_get (D := (dC, dI)) (ci := 11) (v := .long (sl55 0 30)) (C := RX12) (T := TX12) (N := 47) hx hb hts ii_X12_layPerils hown hK hP 0 rfl rfl 30 (by decide) (hts _ mm_X12_layPerils_2) (fun _ hh => hh) rfl dX12_layPerils_249 ?_
                        refine lv_aload_n hx hb dX12_layPerils_252 rfl (lv_at hl 8 rfl) ?_
                        refine va_get (D := (dC, dI)) (ci := 11) (v := .long (sl55 0 29)) (C := RX12) (T := TX12) (N := 47) hx hb hts ii_X12_layPerils hown hK hP 0 rfl rfl 29 (by decide) (hts _ mm_X12_layPerils_1) (fun _ hh => hh) rfl dX12_layPerils_253 ?_
                        refine va_calll (va_runS (As := [.long (sl55 0 30), .long (sl55 0 29)]) (rest := []) ⟨hx, hb, hml, hown, hts⟩ (m_commonLong l dC dI ar cy _ hN st29 sl55 (sl55 0 30) (sl55 0 29)  hG.1) (va_cwS 2 hts gX12_layPerils_X12_commonLong rfl rfl rfl (by decide +kernel) ⟨Nat.le_of_ble_eq_true rfl, Nat.le_of_ble_eq_true rfl⟩) ⟨fun a U g mk q => ⟨q.1, mPre.blind q.2⟩, fun U hU hW => ⟨rfl, mPre.of hP hK hU hW⟩⟩ rfl rfl hl.1 rfl (lv_room (Nat.le_of_ble_eq_true rfl)) dX12_layPerils_256 ⟨Nat.le_of_ble_eq_true rfl, Nat.le_of_ble_eq_true rfl⟩) hS (fun q _ h => MA.le hS.1 q h) (MA.le hS.1) (fun r56 x t H locs ht hvm hw hB _ _ hS => ?_)
                        have hP := mB.at ht hB
                        clear hB ht hvm
                        obtain ⟨rfl, hw⟩ := hw
                        have hP : va_P (dC, dI) vwCl (mw ar cy st29 sl55) _ := hP
                        have hf57 := hw
                        have hPS := PS.step (n := k28) (k := (144 - (12 * (12 - n50)))) hv36_1 (by omega) (by omega) ez51 ez52 esl53 ez54 esl55 hf57
                        refine lv_lstore (lv' := [(10, .long r56), (9, .int (nI (12 * (12 - n50)))), (8, .int 1), (4, .int (nI (k28 + 1))), (7, .int (nI n39)), (6, .int (nI k27)), (5, .int (nI k7)), (3, .int z4), (2, .int (nI n3)), (0, .ref (ar 0)), (1, .int (nI va))]) hx hb dX12_layPerils_259 hl (by decide) rfl (fun ls hl => ?_)
                        refine lv_aload_n hx hb dX12_layPerils_261 rfl (lv_at hl 9 rfl) ?_
                        refine lv_dup hx hb dX12_layPerils_262 rfl ?_
                        refine va_get (D := (dC, dI)) (ci := 11) (v := .long (sl55 0 29)) (C := RX12) (T := TX12) (N := 47) hx hb hts ii_X12_layPerils hown hK hP 0 rfl rfl 29 (by decide) (hts _ mm_X12_layPerils_1) (fun _ hh => hh) rfl dX12_layPerils_263 ?_
                        refine lv_lload hx hb dX12_layPerils_266 (lv_at hl 0 rfl) ?_
                        refine lv_ldiv hx hb dX12_layPerils_268 (hPS.1) ?_
                        refine lv_topl (fun z58 ez58 => ?_)
                        refine va_put (D := (dC, dI)) (ci := 11) (v := .long z58) (ty := .long) (C := RX12) (T := TX12) (N := 47) hx hb hts ii_X12_layPerils tyX12 tyX12_ok nmX12 hown hK hP (mD hN _ _ _ _) hS 0 rfl rfl 29 (by decide) (hts _ mm_X12_layPerils_1) (fun _ hh => hh) rfl (by decide +kernel) rfl rfl (Nat.le_of_ble_eq_true rfl) dX12_layPerils_269 (fun H locs hP _ hS => ?_)
                        have hP : va_P (dC, dI) vwCl (mw ar cy st29 (upL sl55 0 29 z58)) H := hP
                        obtain ⟨sl59, esl59⟩ : ∃ y, y = upL sl55 0 29 z58 := ⟨_, rfl⟩
                        rw [← esl59] at hP
                        have hL : LQ [7, 9] sl sl59 := by rw [esl59]; exact hL.up (by decide)
                        refine lv_aload_n hx hb dX12_layPerils_272 rfl (lv_at hl 9 rfl) ?_
                        refine lv_dup hx hb dX12_layPerils_273 rfl ?_
                        refine va_get (D := (dC, dI)) (ci := 11) (v := .long (sl59 0 30)) (C := RX12) (T := TX12) (N := 47) hx hb hts ii_X12_layPerils hown hK hP 0 rfl rfl 30 (by decide) (hts _ mm_X12_layPerils_2) (fun _ hh => hh) rfl dX12_layPerils_274 ?_
                        refine lv_lload hx hb dX12_layPerils_277 (lv_at hl 0 rfl) ?_
                        refine lv_ldiv hx hb dX12_layPerils_279 (hPS.1) ?_
                        refine lv_topl (fun z60 ez60 => ?_)
                        refine va_put (D := (dC, dI)) (ci := 11) (v := .long z60) (ty := .long) (C := RX12) (T := TX12) (N := 47) hx hb hts ii_X12_layPerils tyX12 tyX12_ok nmX12 hown hK hP (mD hN _ _ _ _) hS 0 rfl rfl 30 (by decide) (hts _ mm_X12_layPerils_2) (fun _ hh => hh) rfl (by decide +kernel) rfl rfl (Nat.le_of_ble_eq_true rfl) dX12_layPerils_280 (fun H locs hP _ hS => ?_)
                        have hP : va_P (dC, dI) vwCl (mw ar cy st29 (upL sl59 0 30 z60)) H := hP
                        obtain ⟨sl61, esl61⟩ : ∃ y, y = upL sl59 0 30 z60 := ⟨_, rfl⟩
                        rw [← esl61] at hP
                        have hL : LQ [7, 9] sl sl61 := by rw [esl61]; exact hL.up (by decide)
                        refine lv_iinc (v := (nI (k27 + 1))) (lv' := [(6, .int (nI (k27 + 1))), (10, .long r56), (9, .int (nI (12 * (12 - n50)))), (8, .int 1), (4, .int (nI (k28 + 1))), (7, .int (nI n39)), (5, .int (nI k7)), (3, .int z4), (2, .int (nI n3)), (0, .ref (ar 0)), (1, .int (nI va))]) hx hb dX12_layPerils_283 hl (k := 5) rfl (nI_add k27 1) (by decide) rfl (fun ls hl => ?_)
                        refine lv_goto (tgt := 96) hx hb dX12_layPerils_286 (by decide) ?_
                        exact ih37 (7 - (k27 + 1)) _ _ _ _ (by omega) ⟨(k27 + 1), (k28 + 1), st29, sl61, rfl, by omega, by omega, by omega, by omega, by omega, hPS.2 _ _ _ _ ez58 esl59 ez60 esl61, hP, hG, hL, hS, lv_sub hl [0, 6, 4, 7, 8, 9, 10] rfl, rfl⟩
                      · refine lv_istore (lv' := [(8, .int 0), (4, .int (nI (k28 + 1))), (7, .int (nI n39)), (6, .int (nI k27)), (5, .int (nI k7)), (3, .int z4), (2, .int (nI n3)), (0, .ref (ar 0)), (1, .int (nI va))]) hx hb dX12_layPerils_185 hl (by decide) rfl (fun ls hl => ?_)
                        refine lv_iload hx hb dX12_layPerils_187 (lv_at hl 0 rfl) ?_
                        refine lv_if_eq (tgt := 197) hx hb dX12_layPerils_189 (by decide) (fun _ => ?_) (fun cc => absurd (by decide) cc)
                        refine lv_aload_n hx hb dX12_layPerils_197 rfl (lv_at hl 7 rfl) ?_
                        refine va_get (D := (dC, dI)) (ci := 11) (v := .ref (ar 2)) (C := RX12) (T := TX12) (N := 47) hx hb hts ii_X12_layPerils hown hK hP 0 rfl rfl 14 (by decide) (hts _ mm_X12_layPerils_3) (fun _ hh => hh) rfl dX12_layPerils_198 ?_
                        refine lv_bipush (v := 62) hx hb dX12_layPerils_201 (by decide) ?_
                        refine va_iald hx hb hK hP 2 1 rfl rfl (i := 62) (zz_in (by decide)) dX12_layPerils_203 ?_
                        obtain ⟨n62, hn62, en62⟩ := hG.1.at (r := 2) (k := 62) (by decide : mr 2 62 = 13) (by decide)
                        refine zz_top (v := nI n62) (by exact en62) ?_
                        clear en62
                        refine lv_bipush (v := 12) hx hb dX12_layPerils_204 (by decide) ?_
                        refine lv_aload_n hx hb dX12_layPerils_206 rfl (lv_at hl 7 rfl) ?_
                        refine va_get (D := (dC, dI)) (ci := 11) (v := .ref (ar 2)) (C := RX12) (T := TX12) (N := 47) hx hb hts ii_X12_layPerils hown hK hP 0 rfl rfl 14 (by decide) (hts _ mm_X12_layPerils_3) (fun _ hh => hh) rfl dX12_layPerils_207 ?_
                        refine lv_bipush (v := 48) hx hb dX12_layPerils_210 (by decide) ?_
                        refine lv_iload hx hb dX12_layPerils_212 (lv_at hl 3 rfl) ?_
                        refine lv_iadd hx hb dX12_layPerils_214 ?_
                        refine zz_top (v := nI (48 + k27)) (nI_add 48 k27) ?_
                        refine va_iald hx hb hK hP 2 1 rfl rfl (i := (nI (48 + k27))) (vp_in_nI (by omega) (by decide)) dX12_layPerils_215 ?_
                        obtain ⟨n63, hn63, en63⟩ := hG.1.at (r := 2) (k := (48 + k27)) (mr_2_48_54 (48 + k27) (by omega) (by omega)) (by decide)
                        refine zz_top (v := nI n63) (by rw [nI_clamp (by omega)]; exact en63) ?_
                        clear en63
                        refine lv_isub hx hb dX12_layPerils_216 ?_
                        refine zz_top (v := nI (12 - n63)) (nI_subN (a := 12) (b := n63) (by omega) (by omega)) ?_
                        refine lv_imul hx hb dX12_layPerils_217 ?_
                        have ho64 : n62 * (12 - n63) ≤ 12 * 12 := Nat.mul_le_mul (by omega) (by omega)
                        refine zz_top (v := nI (n62 * (12 - n63))) (nI_mul n62 (12 - n63)) ?_
                        refine lv_istore (lv' := [(9, .int (nI (n62 * (12 - n63)))), (8, .int 0), (4, .int (nI (k28 + 1))), (7, .int (nI n39)), (6, .int (nI k27)), (5, .int (nI k7)), (3, .int z4), (2, .int (nI n3)), (0, .ref (ar 0)), (1, .int (nI va))]) hx hb dX12_layPerils_218 hl (by decide) rfl (fun ls hl => ?_)
                        refine lv_aload_n hx hb dX12_layPerils_220 rfl (lv_at hl 8 rfl) ?_
                        refine lv_dup hx hb dX12_layPerils_221 rfl ?_
                        refine va_get (D := (dC, dI)) (ci := 11) (v := .long (sl30 0 29)) (C := RX12) (T := TX12) (N := 47) hx hb hts ii_X12_layPerils hown hK hP 0 rfl rfl 29 (by decide) (hts _ mm_X12_layPerils_1) (fun _ hh => hh) rfl dX12_layPerils_222 ?_
                        refine lv_sipush (v := 144) hx hb dX12_layPerils_225 (by decide) ?_
                        refine lv_iload hx hb dX12_layPerils_228 (lv_at hl 0 rfl) ?_
                        refine lv_isub hx hb dX12_layPerils_230 ?_
                        refine zz_top (v := nI (144 - (n62 * (12 - n63)))) (nI_subN (a := 144) (b := (n62 * (12 - n63))) (by omega) (by omega)) ?_
                        refine lv_i2l hx hb dX12_layPerils_231 rfl ?_
                        refine lv_topl (fun z65 ez65 => ?_)
                        refine lv_lmul hx hb dX12_layPerils_232 ?_
                        refine lv_topl (fun z66 ez66 => ?_)
                        refine va_put (D := (dC, dI)) (ci := 11) (v := .long z66) (ty := .long) (C := RX12) (T := TX12) (N := 47) hx hb hts ii_X12_layPerils tyX12 tyX12_ok nmX12 hown hK hP (mD hN _ _ _ _) hS 0 rfl rfl 29 (by decide) (hts _ mm_X12_layPerils_1) (fun _ hh => hh) rfl (by decide +kernel) rfl rfl (Nat.le_of_ble_eq_true rfl) dX12_layPerils_233 (fun H locs hP _ hS => ?_)
                        have hP : va_P (dC, dI) vwCl (mw ar cy st29 (upL sl30 0 29 z66)) H := hP
                        obtain ⟨sl67, esl67⟩ : ∃ y, y = upL sl30 0 29 z66 := ⟨_, rfl⟩
                        rw [← esl67] at hP
                        have hL : LQ [7, 9] sl sl67 := by rw [esl67]; exact hL.up (by decide)
                        refine lv_aload_n hx hb dX12_layPerils_236 rfl (lv_at hl 8 rfl) ?_
                        refine lv_dup hx hb dX12_layPerils_237 rfl ?_
                        refine va_get (D := (dC, dI)) (ci := 11) (v := .long (sl67 0 30)) (C := RX12) (T := TX12) (N := 47) hx hb hts ii_X12_layPerils hown hK hP 0 rfl rfl 30 (by decide) (hts _ mm_X12_layPerils_2) (fun _ hh => hh) rfl dX12_layPerils_238 ?_
                        refine lv_ldc2 (v := 144) hx hb hown (hts _ mm_X12_layPerils_5) dX12_layPerils_241 ?_
                        refine lv_lmul hx hb dX12_layPerils_244 ?_
                        refine lv_topl (fun z68 ez68 => ?_)
                        refine va_put (D := (dC, dI)) (ci := 11) (v := .long z68) (ty := .long) (C := RX12) (T := TX12) (N := 47) hx hb hts ii_X12_layPerils tyX12 tyX12_ok nmX12 hown hK hP (mD hN _ _ _ _) hS 0 rfl rfl 30 (by decide) (hts _ mm_X12_layPerils_2) (fun _ hh => hh) rfl (by decide +kernel) rfl rfl (Nat.le_of_ble_eq_true rfl) dX12_layPerils_245 (fun H locs hP _ hS => ?_)
                        have hP : va_P (dC, dI) vwCl (mw ar cy st29 (upL sl67 0 30 z68)) H := hP
                        obtain ⟨sl69, esl69⟩ : ∃ y, y = upL sl67 0 30 z68 := ⟨_, rfl⟩
                        rw [← esl69] at hP
                        have hL : LQ [7, 9] sl sl69 := by rw [esl69]; exact hL.up (by decide)
                        refine lv_aload_n hx hb dX12_layPerils_248 rfl (lv_at hl 8 rfl) ?_
                        refine va_get (D := (dC, dI)) (ci := 11) (v := .long (sl69 0 30)) (C := RX12) (T := TX12) (N := 47) hx hb hts ii_X12_layPerils hown hK hP 0 rfl rfl 30 (by decide) (hts _ mm_X12_layPerils_2) (fun _ hh => hh) rfl dX12_layPerils_249 ?_
                        refine lv_aload_n hx hb dX12_layPerils_252 rfl (lv_at hl 8 rfl) ?_
                        refine va_get (D := (dC, dI)) (ci := 11) (v := .long (sl69 0 29)) (C := RX12) (T := TX12) (N := 47) hx hb hts ii_X12_layPerils hown hK hP 0 rfl rfl 29 (by decide) (hts _ mm_X12_layPerils_1) (fun _ hh => hh) rfl dX12_layPerils_253 ?_
                        refine va_calll (va_runS (As := [.long (sl69 0 30), .long (sl69 0 29)]) (rest := []) ⟨hx, hb, hml, hown, hts⟩ (m_commonLong l dC dI ar cy _ hN st29 sl69 (sl69 0 30) (sl69 0 29)  hG.1) (va_cwS 2 hts gX12_layPerils_X12_commonLong rfl rfl rfl (by decide +kernel) ⟨Nat.le_of_ble_eq_true rfl, Nat.le_of_ble_eq_true rfl⟩) ⟨fun a U g mk q => ⟨q.1, mPre.blind q.2⟩, fun U hU hW => ⟨rfl, mPre.of hP hK hU hW⟩⟩ rfl rfl hl.1 rfl (lv_room (Nat.le_of_ble_eq_true rfl)) dX12_layPerils_256 ⟨Nat.le_of_ble_eq_true rfl, Nat.le_of_ble_eq_true rfl⟩) hS (fun q _ h => MA.le hS.1 q h) (MA.le hS.1) (fun r70 x t H locs ht hvm hw hB _ _ hS => ?_)
                        have hP := mB.at ht hB
                        clear hB ht hvm
                        obtain ⟨rfl, hw⟩ := hw
                        have hP : va_P (dC, dI) vwCl (mw ar cy st29 sl69) _ := hP
                        have hf71 := hw
                        have hPS := PS.step (n := k28) (k := (144 - (n62 * (12 - n63)))) hv36_1 (by omega) (by omega) ez65 ez66 esl67 ez68 esl69 hf71
                        refine lv_lstore (lv' := [(10, .long r70), (9, .int (nI (n62 * (12 - n63)))), (8, .int 0), (4, .int (nI (k28 + 1))), (7, .int (nI n39)), (6, .int (nI k27)), (5, .int (nI k7)), (3, .int z4), (2, .int (nI n3)), (0, .ref (ar 0)), (1, .int (nI va))]) hx hb dX12_layPerils_259 hl (by decide) rfl (fun ls hl => ?_)
                        refine lv_aload_n hx hb dX12_layPerils_261 rfl (lv_at hl 9 rfl) ?_
                        refine lv_dup hx hb dX12_layPerils_262 rfl ?_
                        refine va_get (D := (dC, dI)) (ci := 11) (v := .long (sl69 0 29)) (C := RX12) (T := TX12) (N := 47) hx hb hts ii_X12_layPerils hown hK hP 0 rfl rfl 29 (by decide) (hts _ mm_X12_layPerils_1) (fun _ hh => hh) rfl dX12_layPerils_263 ?_
                        refine lv_lload hx hb dX12_layPerils_266 (lv_at hl 0 rfl) ?_
                        refine lv_ldiv hx hb dX12_layPerils_268 (hPS.1) ?_
                        refine lv_topl (fun z72 ez72 => ?_)
                        refine va_put (D := (dC, dI)) (ci := 11) (v := .long z72) (ty := .long) (C := RX12) (T := TX12) (N := 47) hx hb hts ii_X12_layPerils tyX12 tyX12_ok nmX12 hown hK hP (mD hN _ _ _ _) hS 0 rfl rfl 29 (by decide) (hts _ mm_X12_layPerils_1) (fun _ hh => hh) rfl (by decide +kernel) rfl rfl (Nat.le_of_ble_eq_true rfl) dX12_layPerils_269 (fun H locs hP _ hS => ?_)
                        have hP : va_P (dC, dI) vwCl (mw ar cy st29 (upL sl69 0 29 z72)) H := hP
                        obtain ⟨sl73, esl73⟩ : ∃ y, y = upL sl69 0 29 z72 := ⟨_, rfl⟩
                        rw [← esl73] at hP
                        have hL : LQ [7, 9] sl sl73 := by rw [esl73]; exact hL.up (by decide)
                        refine lv_aload_n hx hb dX12_layPerils_272 rfl (lv_at hl 9 rfl) ?_
                        refine lv_dup hx hb dX12_layPerils_273 rfl ?_
                        refine va_get (D := (dC, dI)) (ci := 11) (v := .long (sl73 0 30)) (C := RX12) (T := TX12) (N := 47) hx hb hts ii_X12_layPerils hown hK hP 0 rfl rfl 30 (by decide) (hts _ mm_X12_layPerils_2) (fun _ hh => hh) rfl dX12_layPerils_274 ?_
                        refine lv_lload hx hb dX12_layPerils_277 (lv_at hl 0 rfl) ?_
                        refine lv_ldiv hx hb dX12_layPerils_279 (hPS.1) ?_
                        refine lv_topl (fun z74 ez74 => ?_)
                        refine va_put (D := (dC, dI)) (ci := 11) (v := .long z74) (ty := .long) (C := RX12) (T := TX12) (N := 47) hx hb hts ii_X12_layPerils tyX12 tyX12_ok nmX12 hown hK hP (mD hN _ _ _ _) hS 0 rfl rfl 30 (by decide) (hts _ mm_X12_layPerils_2) (fun _ hh => hh) rfl (by decide +kernel) rfl rfl (Nat.le_of_ble_eq_true rfl) dX12_layPerils_280 (fun H locs hP _ hS => ?_)
                        have hP : va_P (dC, dI) vwCl (mw ar cy st29 (upL sl73 0 30 z74)) H := hP
                        obtain ⟨sl75, esl75⟩ : ∃ y, y = upL sl73 0 30 z74 := ⟨_, rfl⟩
                        rw [← esl75] at hP
                        have hL : LQ [7, 9] sl sl75 := by rw [esl75]; exact hL.up (by decide)
                        refine lv_iinc (v := (nI (k27 + 1))) (lv' := [(6, .int (nI (k27 + 1))), (10, .long r70), (9, .int (nI (n62 * (12 - n63)))), (8, .int 0), (4, .int (nI (k28 + 1))), (7, .int (nI n39)), (5, .int (nI k7)), (3, .int z4), (2, .int (nI n3)), (0, .ref (ar 0)), (1, .int (nI va))]) hx hb dX12_layPerils_283 hl (k := 5) rfl (nI_add k27 1) (by decide) rfl (fun ls hl => ?_)
                        refine lv_goto (tgt := 96) hx hb dX12_layPerils_286 (by decide) ?_
                        exact ih37 (7 - (k27 + 1)) _ _ _ _ (by omega) ⟨(k27 + 1), (k28 + 1), st29, sl75, rfl, by omega, by omega, by omega, by omega, by omega, hPS.2 _ _ _ _ ez72 esl73 ez74 esl75, hP, hG, hL, hS, lv_sub hl [0, 6, 4, 7, 8, 9, 10] rfl, rfl⟩
                    · have c13 : ¬ (k28 + 1) ≤ 8 := fun hh => c13 ((nI_leI (a := (k28 + 1)) (b := 8) (by omega) (by omega)).mpr hh)
                      refine lv_goto (tgt := 283) hx hb dX12_layPerils_168 (by decide) ?_
                      refine lv_iinc (v := (nI (k27 + 1))) (lv' := [(6, .int (nI (k27 + 1))), (4, .int (nI (k28 + 1))), (7, .int (nI n39)), (5, .int (nI k7)), (3, .int z4), (2, .int (nI n3)), (0, .ref (ar 0)), (1, .int (nI va))]) hx hb dX12_layPerils_283 hl (k := 2) rfl (nI_add k27 1) (by decide) rfl (fun ls hl => ?_)
                      refine lv_goto (tgt := 96) hx hb dX12_layPerils_286 (by decide) ?_
                      exact ih37 (7 - (k27 + 1)) _ _ _ _ (by omega) ⟨(k27 + 1), (k28 + 1), st29, sl30, rfl, by omega, by omega, by omega, by omega, by omega, PS.more hv36_1 (by omega), hP, hG, hL, hS, lv_sub hl [0, 3, 1, 4, 5, 6, 7] rfl, rfl⟩
                  · refine lv_if_ne (tgt := 158) hx hb dX12_layPerils_152 (by decide) (fun cc => absurd (by decide) cc) (fun _ => ?_)
                    refine lv_goto (tgt := 283) hx hb dX12_layPerils_155 (by decide) ?_
                    refine lv_iinc (v := (nI (k27 + 1))) (lv' := [(6, .int (nI (k27 + 1))), (7, .int (nI n39)), (5, .int (nI k7)), (4, .int (nI k28)), (3, .int z4), (2, .int (nI n3)), (0, .ref (ar 0)), (1, .int (nI va))]) hx hb dX12_layPerils_283 hl (k := 1) rfl (nI_add k27 1) (by decide) rfl (fun ls hl => ?_)
                    refine lv_goto (tgt := 96) hx hb dX12_layPerils_286 (by decide) ?_
                    exact ih37 (7 - (k27 + 1)) _ _ _ _ (by omega) ⟨(k27 + 1), k28, st29, sl30, rfl, by omega, by omega, by omega, by omega, by omega, hv36_1, hP, hG, hL, hS, lv_sub hl [0, 2, 3, 4, 5, 6, 7] rfl, rfl⟩
          · have c6 : ¬ n25 = va := fun hh => c6 ((nI_eq (a := n25) (b := va) (by omega) (by omega)).mpr hh)
            refine lv_goto (tgt := 289) hx hb dX12_layPerils_90 (by decide) ?_
            refine lv_iinc (v := (nI (k7 + 1))) (lv' := [(5, .int (nI (k7 + 1))), (4, .int (nI k8)), (3, .int z4), (2, .int (nI n3)), (0, .ref (ar 0)), (1, .int (nI va))]) hx hb dX12_layPerils_289 hl (k := 0) rfl (nI_add k7 1) (by decide) rfl (fun ls hl => ?_)
            refine lv_goto (tgt := 51) hx hb dX12_layPerils_292 (by decide) ?_
            exact ih17 (25 - (k7 + 1)) _ _ _ _ (by omega) ⟨(k7 + 1), k8, st9, sl10, rfl, by omega, by omega, by omega, by omega, by omega, hv16_1, hP, hG, hL, hS, lv_sub hl [0, 1, 2, 3, 4, 5] rfl, rfl⟩
      · refine lv_if_eq (tgt := 289) hx hb dX12_layPerils_76 (by decide) (fun _ => ?_) (fun cc => absurd (by decide) cc)
        refine lv_iinc (v := (nI (k7 + 1))) (lv' := [(5, .int (nI (k7 + 1))), (4, .int (nI k8)), (3, .int z4), (2, .int (nI n3)), (0, .ref (ar 0)), (1, .int (nI va))]) hx hb dX12_layPerils_289 hl (k := 0) rfl (nI_add k7 1) (by decide) rfl (fun ls hl => ?_)
        refine lv_goto (tgt := 51) hx hb dX12_layPerils_292 (by decide) ?_
        exact ih17 (25 - (k7 + 1)) _ _ _ _ (by omega) ⟨(k7 + 1), k8, st9, sl10, rfl, by omega, by omega, by omega, by omega, by omega, hv16_1, hP, hG, hL, hS, lv_sub hl [0, 1, 2, 3, 4, 5] rfl, rfl⟩
