set_option maxHeartbeats 4000000 in
set_option maxRecDepth 100000 in
theorem f_park (l : Launch) (dC : Nat → ClassId) (dI : Nat → Nat → Nat) (ar : Nat → Nat) (cy : Nat → ClassId) (sz : Nat) (hN : MN ar) (st : Nat → Nat → Int32) (sl : Nat → Nat → Int64) (B : Nat → Nat) (g : Nat) (hI : MI st) (ht : st 0 2 = nI g) (hg : g < 941) (hbt : ∀ j, j < g → st 1 j = nI (B j) ∧ B j < 256) : Met l yX12_park wsX12_park ({ frames := 6, cells := 0, slots := 0, locals := 133 }) (va_Pc [.ref (ar 0)] (mPre dC dI ar cy sz st sl)) (va_Qi (fun (r : Int32) (x : MT) => MG [2, 7, 8, 9, 10, 11, 12, 13, 14, 15, 20] st x.1 ∧ (x.1 0 2 = 0 ∧ (NKn st → NKn x.1) ∧ r = pAns (pAll B g 900 900 0 (fun _ => 0) (fun _ _ => 0) 0))) (mB dC dI ar cy) (MA ar sz)) 0 0 (MA ar sz) := by
  refine Met.ofW (cc := cX12_park) (maxL := 3) (ret := (some .int)) (by decide) rfl ?_
  intro p9 e s m9 args below meth c9 s₁ B9 hml hv
  obtain ⟨rfl, hsz, hP, hK⟩ := hv
  have hx := B9.exec
  have hb := B9.bytes
  have hr := B9.returns
  have hts := atoms_spec (ws := wsX12_park) B9.pre
  have hown : s.vm.findClass RX12 = some m9.cls := findClass_of_methodNamed B9.named
  subst hsz
  have hS : va_S (MA ar s.heap.size) s.heap s.heap [] := va_S.rf
  have hG : MG [2, 7, 8, 9, 10, 11, 12, 13, 14, 15, 20] st st := MG.rf hI
  have hl := lv_entry ([.ref (ar 0)]) (n := 3) (Nat.le_of_ble_eq_true rfl)
  rw [lg_entry_eq]
  generalize (lg_sl ([.ref (ar 0)]) ++ List.replicate (3 - (lg_sl ([.ref (ar 0)])).length) Slot.unset).toArray = ls at hl ⊢
  have hl : lv_has ls 3 [(0, .ref (ar 0))] := hl
  clear hI
  have hG6 : MG [6] st st := MG.rf hG.1
  refine lv_aload_n hx hb dX12_park_0 rfl (lv_at hl 0 rfl) ?_
  refine lv_sipush (v := 900) hx hb dX12_park_1 (by decide) ?_
  refine va_callv (va_runV (As := [.int 900]) (rest := []) ⟨hx, hb, hml, hown, hts⟩ (f_begin l dC dI ar cy _ hN st sl B g hG.1 (ht) (hg) (hbt)) (cwV 1 hts gX12_park_X12_begin rfl rfl rfl (by decide +kernel) ⟨Nat.le_of_ble_eq_true rfl, Nat.le_of_ble_eq_true rfl⟩) ⟨fun a U g mk q => ⟨q.1, mPre.blind q.2⟩, va_recv hK hP (ci := 11) (q0 := 0) rfl rfl, fun U hU hW => ⟨rfl, mPre.of hP hK hU hW⟩⟩ rfl rfl hl.1 rfl (lv_room (Nat.le_of_ble_eq_true rfl)) dX12_park_4 ⟨Nat.le_of_ble_eq_true rfl, Nat.le_of_ble_eq_true rfl⟩) hS (fun q _ h => MA.le hS.1 q h) (MA.le hS.1) (fun x t H locs ht hvm hw hB9 _ _ hS => ?_)
  have hP := mB.at ht hB9
  clear hB9 ht hvm
  obtain ⟨st2, sl3⟩ := x
  obtain ⟨hG2, hw⟩ := hw
  dsimp only at hG2 hw
  have hP : va_P (dC, dI) vwCl (mw ar cy st2 sl3) _ := hP
  have hG : MG [2, 7, 8, 9, 10, 11, 12, 13, 14, 15, 20] st st2 := hG.tr hG2 (by decide)
  have hG4 : MG [6] st st2 := hG6.tr hG2 (by decide)
  have hMst2 : MG [2, 6, 7, 8, 9, 10, 11, 12, 13, 14, 15, 20] st st2 := hG2
  clear hG2
  obtain ⟨hf5, hT, hf6, hf7⟩ := hw
  obtain ⟨m, hm⟩ : ∃ m : Nat, m = 900 := ⟨_, rfl⟩
  have hB : MBt B g m st2 := by rw [hm]; exact hf5
  have hT : TM B g m 0 st2 sl3 := by rw [hm]; exact hT
  have hB1 := hB.2.2.1
  have hB2 := hB.2.2.2.1
  have hF : FM 4 st2 sl3 st2 sl3 := FM.rf
  have hp9 := hT.2.2.2.2.2.2
  have hk1 := tkd_lt (B := B) (g := g) (m := m) (p := 0)
  have hk2 := tkx_le (B := B) (g := g) (m := m) (p := 0) hp9
  have hk3 := tka_le (B := B) (g := g) (m := m) (p := 0) hp9 hB.2.2.1
  have hk4 := tkv_lt (p := 0) hB hp9
  have hk5 := tkw_lt (B := B) (g := g) (m := m) (p := 0)
  refine lv_iconst (v := 0) hx hb dX12_park_7 (by decide) ?_
  refine lv_istore_n (lv' := [(1, .int 0), (0, .ref (ar 0))]) hx hb dX12_park_8 rfl hl (by decide) rfl (fun ls hl => ?_)
  refine zz_wf (fun n stk H locs ls => ∃ k8 : Nat, ∃ st9 : Nat → Nat → Int32, ∃ sl10 : Nat → Nat → Int64, n = 62 - k8 ∧ 0 ≤ k8 ∧ k8 < 62 ∧ (∀ j, j < k8 → st9 3 j = 0) ∧ FM 4 st2 sl3 st9 sl10 ∧ TM B g m 0 st9 sl10 ∧ va_P (dC, dI) vwCl (mw ar cy st9 sl10) H ∧ MG [2, 7, 8, 9, 10, 11, 12, 13, 14, 15, 20] st st9 ∧ MG [6] st st9 ∧ va_S (MA ar s.heap.size) s.heap H locs ∧ lv_has ls 3 [(1, .int (nI k8)), (0, .ref (ar 0))] ∧ stk = []) ?_ (62 - 0) _ _ _ _ ⟨0, st2, sl3, rfl, by omega, by omega, by intro jj hk; omega, hF, hT, hP, hG, hG4, hS, lv_sub hl [0, 1] rfl, rfl⟩
  rintro nn stk H locs ls ⟨k8, st9, sl10, hm16, hv12_0, hv13_1, hv14_0, hv15_1, hv16_2, hP, hG, hG11, hS, hl, rfl⟩ ih17
  have hF := hv15_1
  have hT := hv16_2
  refine lv_iload_n hx hb dX12_park_9 rfl (lv_at hl 0 rfl) ?_
  refine lv_bipush (v := 61) hx hb dX12_park_10 (by decide) ?_
  refine lv_icmp_ge (tgt := 28) hx hb dX12_park_12 (by decide) (fun c1 => ?_) (fun c1 => ?_)
  · have c1 : 61 ≤ k8 := (nI_leI (a := 61) (b := k8) (by omega) (by omega)).mp c1
    refine lv_aload_n hx hb dX12_park_28 rfl (lv_at hl 1 rfl) ?_
    refine va_get (D := (dC, dI)) (ci := 11) (v := .ref (ar 3)) (C := RX12) (T := TX12) (N := 47) hx hb hts ii_X12_park hown hK hP 0 rfl rfl 15 (by decide) (hts _ mm_X12_park_1) (fun _ hh => hh) rfl dX12_park_29 ?_
    refine lv_bipush (v := 60) hx hb dX12_park_32 (by decide) ?_
    refine lv_iconst (v := 2) hx hb dX12_park_34 (by decide) ?_
    refine va_iast hx hb hK hP (mD hN _ _ _ _) hS 3 2 rfl rfl (i := 60) (zz_in (by decide)) dX12_park_35 (fun H locs hP _ hS => ?_)
    have hP : va_P (dC, dI) vwCl (mw ar cy (up2 st9 3 60 2) sl10) H := hP
    obtain ⟨st18, est18⟩ : ∃ y, y = up2 st9 3 60 2 := ⟨_, rfl⟩
    have hG : MG [2, 7, 8, 9, 10, 11, 12, 13, 14, 15, 20] st st18 := by rw [est18]; exact hG.up (rn (n := 2) (by decide : mr 3 60 = 13) (by omega)) (pn (by decide : pcl 3 60 = 0) (by decide))
    have hG19 : MG [6] st st18 := by rw [est18]; exact hG11.up (rn (n := 2) (by decide : mr 3 60 = 13) (by omega)) (pn (by decide : pcl 3 60 = 0) (by decide))
    rw [← est18] at hP
    have hF : FM 4 st2 sl3 st18 sl10 := by rw [est18]; exact hF.up (by decide)
    have hT : TM B g m 0 st18 sl10 := by rw [est18]; exact hT.up (by omega)
    refine lv_aload_n hx hb dX12_park_36 rfl (lv_at hl 1 rfl) ?_
    refine lv_iconst (v := 0) hx hb dX12_park_37 (by decide) ?_
    refine va_put (D := (dC, dI)) (ci := 11) (v := .int 0) (ty := .boolean) (C := RX12) (T := TX12) (N := 47) hx hb hts ii_X12_park tyX12 tyX12_ok nmX12 hown hK hP (mD hN _ _ _ _) hS 0 rfl rfl 24 (by decide) (hts _ mm_X12_park_2) (fun _ hh => hh) rfl (by decide +kernel) rfl rfl (Nat.le_of_ble_eq_true rfl) dX12_park_38 (fun H locs hP _ hS => ?_)
    have hP : va_P (dC, dI) vwCl (mw ar cy (up2 st18 0 24 0) sl10) H := hP
    obtain ⟨st20, est20⟩ : ∃ y, y = up2 st18 0 24 0 := ⟨_, rfl⟩
    have hG : MG [2, 7, 8, 9, 10, 11, 12, 13, 14, 15, 20] st st20 := by rw [est20]; exact hG.up (rz (by decide : mr 0 24 = 0)) (pn (by decide : pcl 0 24 = 0) (by decide))
    have hG21 : MG [6] st st20 := by rw [est20]; exact hG19.up (rz (by decide : mr 0 24 = 0)) (pn (by decide : pcl 0 24 = 0) (by decide))
    rw [← est20] at hP
    have hF : FM 4 st2 sl3 st20 sl10 := by rw [est20]; exact hF.up (by decide)
    have hT : TM B g m 0 st20 sl10 := by rw [est20]; exact hT.up (by omega)
    refine lv_iconst (v := 0) hx hb dX12_park_41 (by decide) ?_
    refine lv_istore_n (lv' := [(1, .int 0), (0, .ref (ar 0))]) hx hb dX12_park_42 rfl hl (by decide) rfl (fun ls hl => ?_)
    refine zz_wf (fun n stk H locs ls => ∃ k22 : Nat, ∃ st23 : Nat → Nat → Int32, ∃ sl24 : Nat → Nat → Int64, n = 33 - k22 ∧ 0 ≤ k22 ∧ k22 < 33 ∧ (∃ (p7 : Nat) (c7_ : Nat → Nat) (n7 : Nat → Nat → Nat), TM B g m p7 st23 sl24 ∧ RT c7_ n7 st23 sl24 ∧ pAll B g m (900 - k22) p7 c7_ n7 k22 = pAll B g m 900 0 (fun _ => 0) (fun _ _ => 0) 0 ∧ k22 = c7_ 0 + c7_ 1 + c7_ 2 + c7_ 3 + c7_ 4) ∧ FM 4 st2 sl3 st23 sl24 ∧ va_P (dC, dI) vwCl (mw ar cy st23 sl24) H ∧ MG [2, 7, 8, 9, 10, 11, 12, 13, 14, 15, 20] st st23 ∧ MG [6] st st23 ∧ va_S (MA ar s.heap.size) s.heap H locs ∧ lv_has ls 3 [(1, .int (nI k22)), (0, .ref (ar 0))] ∧ stk = []) ?_ (33 - 0) _ _ _ _ ⟨0, st20, sl10, rfl, by omega, by omega, ⟨0, (fun _ => 0), (fun _ _ => 0), hT, ⟨(by show st20 3 0 = _; rw [est20, up2_ne (r := 0) (k := 24) (a := 3) (j := 0) _ _ (by omega), est18, up2_ne (r := 3) (k := 60) (a := 3) (j := 0) _ _ (by omega)]; exact hv14_0 0 (by omega)), (by show st20 3 1 = _; rw [est20, up2_ne (r := 0) (k := 24) (a := 3) (j := 1) _ _ (by omega), est18, up2_ne (r := 3) (k := 60) (a := 3) (j := 1) _ _ (by omega)]; exact hv14_0 1 (by omega)), (by show st20 3 2 = _; rw [est20, up2_ne (r := 0) (k := 24) (a := 3) (j := 2) _ _ (by omega), est18, up2_ne (r := 3) (k := 60) (a := 3) (j := 2) _ _ (by omega)]; exact hv14_0 2 (by omega)), (by show st20 3 3 = _; rw [est20, up2_ne (r := 0) (k := 24) (a := 3) (j := 3) _ _ (by omega), est18, up2_ne (r := 3) (k := 60) (a := 3) (j := 3) _ _ (by omega)]; exact hv14_0 3 (by omega)), by show st20 0 24 = _; rw [est20, up2_same]; rfl, by decide, fun a ha i hi => absurd hi (Nat.not_lt_zero i)⟩, rfl, rfl⟩, hF, hP, hG, hG21, hS, lv_sub hl [0, 1] rfl, rfl⟩
    rintro nn stk H locs ls ⟨k22, st23, sl24, hm29, hv26_0, hv27_1, hv28_0, hv29_1, hP, hG, hG25, hS, hl, rfl⟩ ih30
    have hF := hv29_1
    obtain ⟨p7, c7_, n7, hT, hR, hpa, hln⟩ := hv28_0
    have hp9 := hT.2.2.2.2.2.2
    have hk1 := tkd_lt (B := B) (g := g) (m := m) (p := p7)
    have hk2 := tkx_le (B := B) (g := g) (m := m) (p := p7) hp9
    have hk3 := tka_le (B := B) (g := g) (m := m) (p := p7) hp9 hB.2.2.1
    have hk4 := tkv_lt (p := p7) hB hp9
    have hk5 := tkw_lt (B := B) (g := g) (m := m) (p := p7)
    have hR9 := hR.2.2.2.2.2.1
    refine lv_aload_n hx hb dX12_park_43 rfl (lv_at hl 1 rfl) ?_
    refine va_get (D := (dC, dI)) (ci := 11) (v := .int (st23 0 7)) (C := RX12) (T := TX12) (N := 47) hx hb hts ii_X12_park hown hK hP 0 rfl rfl 7 (by decide) (hts _ mm_X12_park_3) (fun _ hh => hh) rfl dX12_park_44 ?_
    refine zz_top (v := (nI (tkd B g m p7))) (by show st23 0 7 = _; rw [hT.2.2.1]) ?_
    refine lv_if_eq (tgt := 77) hx hb dX12_park_47 (by decide) (fun c2 => ?_) (fun c2 => ?_)
    · have c2 : (tkd B g m p7) = 0 := (nI_eq (a := (tkd B g m p7)) (b := 0) (by omega) (by omega)).mp c2
      have h02 : st23 0 2 = 0 := by rw [(hF 0 2 (by decide)).1, hf7]
      have hres : pAll B g m 900 0 (fun _ => 0) (fun _ _ => 0) 0 = ((0, p7, c7_, n7), k22) := hpa.symm.trans (pAll_0 (by omega) (by omega))
      refine lv_iconst (v := 0) hx hb dX12_park_77 (by decide) ?_
      refine lv_istore_n (lv' := [(2, .int 0), (1, .int (nI k22)), (0, .ref (ar 0))]) hx hb dX12_park_78 rfl hl (by decide) rfl (fun ls hl => ?_)
      refine zz_wf (fun n stk H locs ls => ∃ k31 : Nat, ∃ st32 : Nat → Nat → Int32, ∃ sl33 : Nat → Nat → Int64, n = 62 - k31 ∧ 0 ≤ k31 ∧ k31 < 62 ∧ st32 0 2 = 0 ∧ va_P (dC, dI) vwCl (mw ar cy st32 sl33) H ∧ MG [2, 7, 8, 9, 10, 11, 12, 13, 14, 15, 20] st st32 ∧ MG [6] st st32 ∧ va_S (MA ar s.heap.size) s.heap H locs ∧ lv_has ls 3 [(2, .int (nI k31)), (1, .int (nI k22)), (0, .ref (ar 0))] ∧ stk = []) ?_ (62 - 0) _ _ _ _ ⟨0, st23, sl24, rfl, by omega, by omega, by show st23 0 2 = 0; rw [h02], hP, hG, hG25, hS, lv_sub hl [0, 1, 2] rfl, rfl⟩
      rintro nn stk H locs ls ⟨k31, st32, sl33, hm37, hv35_0, hv36_1, hv37_0, hP, hG, hG34, hS, hl, rfl⟩ ih38
      refine lv_iload_n hx hb dX12_park_79 rfl (lv_at hl 0 rfl) ?_
      refine lv_bipush (v := 61) hx hb dX12_park_80 (by decide) ?_
      refine lv_icmp_ge (tgt := 103) hx hb dX12_park_82 (by decide) (fun c3 => ?_) (fun c3 => ?_)
      · have c3 : 61 ≤ k31 := (nI_leI (a := 61) (b := k31) (by omega) (by omega)).mp c3
        refine lv_iconst (v := 0) hx hb dX12_park_103 (by decide) ?_
        refine lv_istore_n (lv' := [(2, .int 0), (1, .int (nI k22)), (0, .ref (ar 0))]) hx hb dX12_park_104 rfl hl (by decide) rfl (fun ls hl => ?_)
        refine zz_wf (fun n stk H locs ls => ∃ k39 : Nat, ∃ st40 : Nat → Nat → Int32, ∃ sl41 : Nat → Nat → Int64, n = 20 - k39 ∧ 0 ≤ k39 ∧ k39 < 20 ∧ st40 0 2 = 0 ∧ va_P (dC, dI) vwCl (mw ar cy st40 sl41) H ∧ MG [2, 7, 8, 9, 10, 11, 12, 13, 14, 15, 20] st st40 ∧ MG [6] st st40 ∧ va_S (MA ar s.heap.size) s.heap H locs ∧ lv_has ls 3 [(2, .int (nI k39)), (1, .int (nI k22)), (0, .ref (ar 0))] ∧ stk = []) ?_ (20 - 0) _ _ _ _ ⟨0, st32, sl33, rfl, by omega, by omega, by show st32 0 2 = 0; rw [hv37_0], hP, hG, hG34, hS, lv_sub hl [0, 1, 2] rfl, rfl⟩
        rintro nn stk H locs ls ⟨k39, st40, sl41, hm45, hv43_0, hv44_1, hv45_0, hP, hG, hG42, hS, hl, rfl⟩ ih46
        refine lv_iload_n hx hb dX12_park_105 rfl (lv_at hl 0 rfl) ?_
        refine lv_bipush (v := 19) hx hb dX12_park_106 (by decide) ?_
        refine lv_icmp_ge (tgt := 129) hx hb dX12_park_108 (by decide) (fun c4 => ?_) (fun c4 => ?_)
        · have c4 : 19 ≤ k39 := (nI_leI (a := 19) (b := k39) (by omega) (by omega)).mp c4
          refine lv_aload_n hx hb dX12_park_129 rfl (lv_at hl 2 rfl) ?_
          refine va_callv (va_runV (As := []) (rest := []) ⟨hx, hb, hml, hown, hts⟩ (m_startSo l dC dI ar cy _ hN st40 sl41 hG.1 ) (cwV 0 hts gX12_park_X12_startSo rfl rfl rfl (by decide +kernel) ⟨Nat.le_of_ble_eq_true rfl, Nat.le_of_ble_eq_true rfl⟩) ⟨fun a U g mk q => ⟨q.1, mPre.blind q.2⟩, va_recv hK hP (ci := 11) (q0 := 0) rfl rfl, fun U hU hW => ⟨rfl, mPre.of hP hK hU hW⟩⟩ rfl rfl hl.1 rfl (lv_room (Nat.le_of_ble_eq_true rfl)) dX12_park_130 ⟨Nat.le_of_ble_eq_true rfl, Nat.le_of_ble_eq_true rfl⟩) hS (fun q _ h => MA.le hS.1 q h) (MA.le hS.1) (fun x t H locs ht hvm hw hB9 _ _ hS => ?_)
          have hP := mB.at ht hB9
          clear hB9 ht hvm
          obtain ⟨st48, sl49⟩ := x
          obtain ⟨hG2, hw⟩ := hw
          dsimp only at hG2 hw
          have hP : va_P (dC, dI) vwCl (mw ar cy st48 sl49) _ := hP
          have hG : MG [2, 7, 8, 9, 10, 11, 12, 13, 14, 15, 20] st st48 := hG.tr hG2 (by decide)
          have hMst48 : MG [1, 2, 3, 4, 5, 7, 8, 9, 10, 11, 12, 13, 14, 15, 16, 17, 19, 20] st40 st48 := hG2
          clear hG2
          have hf50 := hw
          refine lv_aload_n hx hb dX12_park_133 rfl (lv_at hl 2 rfl) ?_
          refine lv_iconst (v := 0) hx hb dX12_park_134 (by decide) ?_
          refine va_put (D := (dC, dI)) (ci := 11) (v := .int 0) (ty := .int) (C := RX12) (T := TX12) (N := 47) hx hb hts ii_X12_park tyX12 tyX12_ok nmX12 hown hK hP (mD hN _ _ _ _) hS 0 rfl rfl 23 (by decide) (hts _ mm_X12_park_8) (fun _ hh => hh) rfl (by decide +kernel) rfl rfl (Nat.le_of_ble_eq_true rfl) dX12_park_135 (fun H locs hP _ hS => ?_)
          have hP : va_P (dC, dI) vwCl (mw ar cy (up2 st48 0 23 0) sl49) H := hP
          obtain ⟨st51, est51⟩ : ∃ y, y = up2 st48 0 23 0 := ⟨_, rfl⟩
          have hG : MG [2, 7, 8, 9, 10, 11, 12, 13, 14, 15, 20] st st51 := by rw [est51]; exact hG.up (r0) (pn (by decide : pcl 0 23 = 18) (by decide))
          rw [← est51] at hP
          refine lv_iload_n hx hb dX12_park_138 rfl (lv_at hl 1 rfl) ?_
          have hr9 : (nI k22) = pAns (pAll B g m 900 0 (fun _ => 0) (fun _ _ => 0) 0) := by rw [hres, pAns_0]
          have h02 : st51 0 2 = 0 := by rw [est51, up2_ne (r := 0) (k := 23) (a := 0) (j := 2) _ _ (by omega), hMst48.2 0 2 (by decide), hv45_0]
          have hnk9 : NKn st → NKn st51 := fun _ => NKf.zero (fun jj hk => by show st51 2 (133 + jj) = 0; rw [est51, up2_ne (r := 0) (k := 23) (a := 2) (j := 133 + jj) _ _ (by omega)]; exact hf50 (133 + jj) (by omega) (by omega))
          subst hm
          exact W.iret (v := (nI k22)) hx hb hr (fun t ht hW => ⟨⟨(nI k22), (st51, sl49), rfl, ⟨hG, ⟨h02, hnk9, hr9⟩⟩, mB.of ht hP⟩, hS.F ht⟩) hS.2.2 dX12_park_139
        · have c4 : ¬ 19 ≤ k39 := fun hh => c4 ((nI_leI (a := 19) (b := k39) (by omega) (by omega)).mpr hh)
          refine lv_aload_n hx hb dX12_park_111 rfl (lv_at hl 2 rfl) ?_
          refine va_get (D := (dC, dI)) (ci := 11) (v := .ref (ar 7)) (C := RX12) (T := TX12) (N := 47) hx hb hts ii_X12_park hown hK hP 0 rfl rfl 19 (by decide) (hts _ mm_X12_park_6) (fun _ hh => hh) rfl dX12_park_112 ?_
          refine lv_iload_n hx hb dX12_park_115 rfl (lv_at hl 0 rfl) ?_
          refine lv_aload_n hx hb dX12_park_116 rfl (lv_at hl 2 rfl) ?_
          refine va_get (D := (dC, dI)) (ci := 11) (v := .ref (ar 8)) (C := RX12) (T := TX12) (N := 47) hx hb hts ii_X12_park hown hK hP 0 rfl rfl 20 (by decide) (hts _ mm_X12_park_7) (fun _ hh => hh) rfl dX12_park_117 ?_
          refine lv_iload_n hx hb dX12_park_120 rfl (lv_at hl 0 rfl) ?_
          refine va_lald hx hb hK hP 8 7 rfl rfl (i := (nI k39)) (vp_in_nI (by omega) (by decide)) dX12_park_121 ?_
          refine zz_topl (v := sl41 8 k39) (by rw [nI_clamp (by omega)]) ?_
          refine va_last hx hb hK hP (mD hN _ _ _ _) hS 7 6 rfl rfl (i := (nI k39)) (vp_in_nI (by omega) (by decide)) dX12_park_122 (fun H locs hP _ hS => ?_)
          rw [nI_clamp (by omega)] at hP
          have hP : va_P (dC, dI) vwCl (mw ar cy st40 (upL sl41 7 k39 (sl41 8 k39))) H := hP
          obtain ⟨sl52, esl52⟩ : ∃ y, y = upL sl41 7 k39 (sl41 8 k39) := ⟨_, rfl⟩
          rw [← esl52] at hP
          refine lv_iinc (v := (nI (k39 + 1))) (lv' := [(2, .int (nI (k39 + 1))), (1, .int (nI k22)), (0, .ref (ar 0))]) hx hb dX12_park_123 hl (k := 0) rfl (nI_add k39 1) (by decide) rfl (fun ls hl => ?_)
          refine lv_goto (tgt := 105) hx hb dX12_park_126 (by decide) ?_
          exact ih46 (20 - (k39 + 1)) _ _ _ _ (by omega) ⟨(k39 + 1), st40, sl52, rfl, by omega, by omega, by show st40 0 2 = 0; rw [hv45_0], hP, hG, hG42, hS, lv_sub hl [0, 1, 2] rfl, rfl⟩
      · have c3 : ¬ 61 ≤ k31 := fun hh => c3 ((nI_leI (a := 61) (b := k31) (by omega) (by omega)).mpr hh)
        refine lv_aload_n hx hb dX12_park_85 rfl (lv_at hl 2 rfl) ?_
        refine va_get (D := (dC, dI)) (ci := 11) (v := .ref (ar 2)) (C := RX12) (T := TX12) (N := 47) hx hb hts ii_X12_park hown hK hP 0 rfl rfl 14 (by decide) (hts _ mm_X12_park_5) (fun _ hh => hh) rfl dX12_park_86 ?_
        refine lv_iload_n hx hb dX12_park_89 rfl (lv_at hl 0 rfl) ?_
        refine lv_aload_n hx hb dX12_park_90 rfl (lv_at hl 2 rfl) ?_
        refine va_get (D := (dC, dI)) (ci := 11) (v := .ref (ar 3)) (C := RX12) (T := TX12) (N := 47) hx hb hts ii_X12_park hown hK hP 0 rfl rfl 15 (by decide) (hts _ mm_X12_park_1) (fun _ hh => hh) rfl dX12_park_91 ?_
        refine lv_iload_n hx hb dX12_park_94 rfl (lv_at hl 0 rfl) ?_
        refine va_iald hx hb hK hP 3 2 rfl rfl (i := (nI k31)) (vp_in_nI (by omega) (by decide)) dX12_park_95 ?_
        refine zz_top (v := st32 3 k31) (by rw [nI_clamp (by omega)]) ?_
        have hIst32 := hG.1
        refine va_iast hx hb hK hP (mD hN _ _ _ _) hS 2 1 rfl rfl (i := (nI k31)) (vp_in_nI (by omega) (by decide)) dX12_park_96 (fun H locs hP _ hS => ?_)
        rw [nI_clamp (by omega)] at hP
        have hP : va_P (dC, dI) vwCl (mw ar cy (up2 st32 2 k31 (st32 3 k31)) sl33) H := hP
        obtain ⟨st53, est53⟩ : ∃ y, y = up2 st32 2 k31 (st32 3 k31) := ⟨_, rfl⟩
        have hG : MG [2, 7, 8, 9, 10, 11, 12, 13, 14, 15, 20] st st53 := by rw [est53]; exact hG.up (rc hIst32 (rfl)) (pn (pcl_2_0_61 k31 (by omega) (by omega)) (by decide))
        have hG54 : MG [6] st st53 := by rw [est53]; exact hG34.up (rc hIst32 (rfl)) (pn (pcl_2_0_61 k31 (by omega) (by omega)) (by decide))
        rw [← est53] at hP
        refine lv_iinc (v := (nI (k31 + 1))) (lv' := [(2, .int (nI (k31 + 1))), (1, .int (nI k22)), (0, .ref (ar 0))]) hx hb dX12_park_97 hl (k := 0) rfl (nI_add k31 1) (by decide) rfl (fun ls hl => ?_)
        refine lv_goto (tgt := 79) hx hb dX12_park_100 (by decide) ?_
        exact ih38 (62 - (k31 + 1)) _ _ _ _ (by omega) ⟨(k31 + 1), st53, sl33, rfl, by omega, by omega, by show st53 0 2 = 0; rw [est53, up2_ne (r := 2) (k := k31) (a := 0) (j := 2) _ _ (by omega), hv37_0], hP, hG, hG54, hS, lv_sub hl [0, 1, 2] rfl, rfl⟩
    · have c2 : ¬ (tkd B g m p7) = 0 := fun hh => c2 ((nI_eq (a := (tkd B g m p7)) (b := 0) (by omega) (by omega)).mpr hh)
      refine lv_aload_n hx hb dX12_park_50 rfl (lv_at hl 1 rfl) ?_
      refine va_calli (va_runV (As := []) (rest := []) ⟨hx, hb, hml, hown, hts⟩ (f_readLine l dC dI ar cy _ hN st23 sl24 B g m p7 c7_ n7 hG.1 (MBt.fr hB hF) hT hR) (cwV 0 hts gX12_park_X12_readLine rfl rfl rfl (by decide +kernel) ⟨Nat.le_of_ble_eq_true rfl, Nat.le_of_ble_eq_true rfl⟩) ⟨fun a U g mk q => ⟨q.1, mPre.blind q.2⟩, va_recv hK hP (ci := 11) (q0 := 0) rfl rfl, fun U hU hW => ⟨rfl, mPre.of hP hK hU hW⟩⟩ rfl rfl hl.1 rfl (lv_room (Nat.le_of_ble_eq_true rfl)) dX12_park_51 ⟨Nat.le_of_ble_eq_true rfl, Nat.le_of_ble_eq_true rfl⟩) hS (fun q _ h => MA.le hS.1 q h) (MA.le hS.1) (fun r55 x t H locs ht hvm hw hB9 _ _ hS => ?_)
      have hP := mB.at ht hB9
      clear hB9 ht hvm
      obtain ⟨st56, sl57⟩ := x
      obtain ⟨hG2, hF2, hw⟩ := hw
      dsimp only at hG2 hF2 hw
      have hP : va_P (dC, dI) vwCl (mw ar cy st56 sl57) _ := hP
      have hG : MG [2, 7, 8, 9, 10, 11, 12, 13, 14, 15, 20] st st56 := hG.tr hG2 (by decide)
      have hG58 : MG [6] st st56 := hG25.tr hG2 (by decide)
      have hFst56 : FM 4 st23 sl24 st56 sl57 := hF2
      have hF : FM 4 st2 sl3 st56 sl57 := hF.tr hFst56 (by omega) (by omega)
      clear hG2 hF2
      rcases hw with ⟨n59, n60, n61, rfl, hR, hT, hf62, hf63⟩ | ⟨n64, n65, rfl, hf66, hf67, hf68, hf69⟩
      · have hp9 := hT.2.2.2.2.2.2
        have hk1 := tkd_lt (B := B) (g := g) (m := m) (p := n61)
        have hk2 := tkx_le (B := B) (g := g) (m := m) (p := n61) hp9
        have hk3 := tka_le (B := B) (g := g) (m := m) (p := n61) hp9 hB.2.2.1
        have hk4 := tkv_lt (p := n61) hB hp9
        have hk5 := tkw_lt (B := B) (g := g) (m := m) (p := n61)
        refine lv_if_eq (tgt := 64) hx hb dX12_park_54 (by decide) (fun cc => absurd cc (by decide)) (fun _ => ?_)
        refine lv_aload_n hx hb dX12_park_57 rfl (lv_at hl 1 rfl) ?_
        refine va_calli (va_runV (As := []) (rest := []) ⟨hx, hb, hml, hown, hts⟩ (f_readEnd l dC dI ar cy _ hN st56 sl57 B g m n61 hG.1 (MBt.fr hB hF) hT) (cwV 0 hts gX12_park_X12_readEnd rfl rfl rfl (by decide +kernel) ⟨Nat.le_of_ble_eq_true rfl, Nat.le_of_ble_eq_true rfl⟩) ⟨fun a U g mk q => ⟨q.1, mPre.blind q.2⟩, va_recv hK hP (ci := 11) (q0 := 0) rfl rfl, fun U hU hW => ⟨rfl, mPre.of hP hK hU hW⟩⟩ rfl rfl hl.1 rfl (lv_room (Nat.le_of_ble_eq_true rfl)) dX12_park_58 ⟨Nat.le_of_ble_eq_true rfl, Nat.le_of_ble_eq_true rfl⟩) hS (fun q _ h => MA.le hS.1 q h) (MA.le hS.1) (fun r70 x t H locs ht hvm hw hB9 _ _ hS => ?_)
        have hP := mB.at ht hB9
        clear hB9 ht hvm
        obtain ⟨st71, sl72⟩ := x
        obtain ⟨hG2, hF2, hw⟩ := hw
        dsimp only at hG2 hF2 hw
        have hP : va_P (dC, dI) vwCl (mw ar cy st71 sl72) _ := hP
        have hG : MG [2, 7, 8, 9, 10, 11, 12, 13, 14, 15, 20] st st71 := hG.tr hG2 (by decide)
        have hG73 : MG [6] st st71 := hG58.tr hG2 (by decide)
        have hFst71 : FM 2 st56 sl57 st71 sl72 := hF2
        have hF : FM 4 st2 sl3 st71 sl72 := hF.tr hFst71 (by omega) (by omega)
        clear hG2 hF2
        have hR : RT n59 n60 st71 sl72 := hR.fr hFst71 (by omega)
        rcases hw with ⟨rfl, hT, hf74⟩ | ⟨n75, n76, rfl, hf77, hf78, hf79, hf80⟩
        · have hp9 := hT.2.2.2.2.2.2
          have hk1 := tkd_lt (B := B) (g := g) (m := m) (p := (tkx B g m n61))
          have hk2 := tkx_le (B := B) (g := g) (m := m) (p := (tkx B g m n61)) hp9
          have hk3 := tka_le (B := B) (g := g) (m := m) (p := (tkx B g m n61)) hp9 hB.2.2.1
          have hk4 := tkv_lt (p := (tkx B g m n61)) hB hp9
          have hk5 := tkw_lt (B := B) (g := g) (m := m) (p := (tkx B g m n61))
          refine lv_if_ne (tgt := 71) hx hb dX12_park_61 (by decide) (fun _ => ?_) (fun cc => absurd cc (by decide))
          refine lv_iinc (v := (nI (k22 + 1))) (lv' := [(1, .int (nI (k22 + 1))), (0, .ref (ar 0))]) hx hb dX12_park_71 hl (k := 0) rfl (nI_add k22 1) (by decide) rfl (fun ls hl => ?_)
          refine lv_goto (tgt := 43) hx hb dX12_park_74 (by decide) ?_
          have hR9 := hR.2.2.2.2.2.1
          have hsm := hf62
          exact ih30 (33 - (k22 + 1)) _ _ _ _ (by omega) ⟨(k22 + 1), st71, sl72, rfl, by omega, by omega, ⟨(tkx B g m n61), n59, n60, hT, hR, (pAll_y (show ¬ tkd B g m p7 = 0 by omega) (hf63.trans (hf74 _)) (by omega)).symm.trans hpa, by omega⟩, hF, hP, hG, hG73, hS, lv_sub hl [0, 1] rfl, rfl⟩
        · refine lv_if_ne (tgt := 71) hx hb dX12_park_61 (by decide) (fun cc => absurd (by decide) cc) (fun _ => ?_)
          refine lv_iconst (v := (-1)) hx hb dX12_park_64 (by decide) ?_
          refine lv_aload_n hx hb dX12_park_65 rfl (lv_at hl 1 rfl) ?_
          refine va_get (D := (dC, dI)) (ci := 11) (v := .int (st71 0 11)) (C := RX12) (T := TX12) (N := 47) hx hb hts ii_X12_park hown hK hP 0 rfl rfl 11 (by decide) (hts _ mm_X12_park_4) (fun _ hh => hh) rfl dX12_park_66 ?_
          refine zz_top (v := (nI n76)) (by show st71 0 11 = _; rw [hf78]) ?_
          refine lv_isub hx hb dX12_park_69 ?_
          refine lv_topi (fun z81 ez81 => ?_)
          have hres : pAll B g m 900 0 (fun _ => 0) (fun _ _ => 0) 0 = (fl n75 n76, 0) := hpa.symm.trans (pAll_f (show ¬ tkd B g m p7 = 0 by omega) (hf63.trans (hf80 _)) hf79 (by omega))
          have hr9 : z81 = pAns (pAll B g m 900 0 (fun _ => 0) (fun _ _ => 0) 0) := by rw [ez81, hres, pAns_f hf79]
          have h02 : st71 0 2 = 0 := by rw [(hF 0 2 (by decide)).1, hf7]
          have hnk9 : NKn st → NKn st71 := fun hh => NKn.mg hG73 (by decide) hh
          subst hm
          exact W.iret (v := z81) hx hb hr (fun t ht hW => ⟨⟨z81, (st71, sl72), rfl, ⟨hG, ⟨h02, hnk9, hr9⟩⟩, mB.of ht hP⟩, hS.F ht⟩) hS.2.2 dX12_park_70
      · refine lv_if_eq (tgt := 64) hx hb dX12_park_54 (by decide) (fun _ => ?_) (fun cc => absurd (by decide) cc)
        refine lv_iconst (v := (-1)) hx hb dX12_park_64 (by decide) ?_
        refine lv_aload_n hx hb dX12_park_65 rfl (lv_at hl 1 rfl) ?_
        refine va_get (D := (dC, dI)) (ci := 11) (v := .int (st56 0 11)) (C := RX12) (T := TX12) (N := 47) hx hb hts ii_X12_park hown hK hP 0 rfl rfl 11 (by decide) (hts _ mm_X12_park_4) (fun _ hh => hh) rfl dX12_park_66 ?_
        refine zz_top (v := (nI n65)) (by show st56 0 11 = _; rw [hf67]) ?_
        refine lv_isub hx hb dX12_park_69 ?_
        refine lv_topi (fun z82 ez82 => ?_)
        have hres : pAll B g m 900 0 (fun _ => 0) (fun _ _ => 0) 0 = (fl n64 n65, 0) := hpa.symm.trans (pAll_f (show ¬ tkd B g m p7 = 0 by omega) hf69 hf68 (by omega))
        have hr9 : z82 = pAns (pAll B g m 900 0 (fun _ => 0) (fun _ _ => 0) 0) := by rw [ez82, hres, pAns_f hf68]
        have h02 : st56 0 2 = 0 := by rw [(hF 0 2 (by decide)).1, hf7]
        have hnk9 : NKn st → NKn st56 := fun hh => NKn.mg hG58 (by decide) hh
        subst hm
        exact W.iret (v := z82) hx hb hr (fun t ht hW => ⟨⟨z82, (st56, sl57), rfl, ⟨hG, ⟨h02, hnk9, hr9⟩⟩, mB.of ht hP⟩, hS.F ht⟩) hS.2.2 dX12_park_70
  · have c1 : ¬ 61 ≤ k8 := fun hh => c1 ((nI_leI (a := 61) (b := k8) (by omega) (by omega)).mpr hh)
    refine lv_aload_n hx hb dX12_park_15 rfl (lv_at hl 1 rfl) ?_
    refine va_get (D := (dC, dI)) (ci := 11) (v := .ref (ar 3)) (C := RX12) (T := TX12) (N := 47) hx hb hts ii_X12_park hown hK hP 0 rfl rfl 15 (by decide) (hts _ mm_X12_park_1) (fun _ hh => hh) rfl dX12_park_16 ?_
    refine lv_iload_n hx hb dX12_park_19 rfl (lv_at hl 0 rfl) ?_
    refine lv_iconst (v := 0) hx hb dX12_park_20 (by decide) ?_
    refine va_iast hx hb hK hP (mD hN _ _ _ _) hS 3 2 rfl rfl (i := (nI k8)) (vp_in_nI (by omega) (by decide)) dX12_park_21 (fun H locs hP _ hS => ?_)
    rw [nI_clamp (by omega)] at hP
    have hP : va_P (dC, dI) vwCl (mw ar cy (up2 st9 3 k8 0) sl10) H := hP
    obtain ⟨st83, est83⟩ : ∃ y, y = up2 st9 3 k8 0 := ⟨_, rfl⟩
    have hG : MG [2, 7, 8, 9, 10, 11, 12, 13, 14, 15, 20] st st83 := by rw [est83]; exact hG.up (r0) (pns_3_0_61_2_7_8_9_10_11_12_13_14_15_20 k8 (by omega) (by omega))
    have hG84 : MG [6] st st83 := by rw [est83]; exact hG11.up (r0) (pns_3_0_61_6 k8 (by omega) (by omega))
    rw [← est83] at hP
    have hF : FM 4 st2 sl3 st83 sl10 := by rw [est83]; exact hF.up (dm_read _)
    have hT : TM B g m 0 st83 sl10 := by rw [est83]; exact hT.up (by omega)
    refine lv_iinc (v := (nI (k8 + 1))) (lv' := [(1, .int (nI (k8 + 1))), (0, .ref (ar 0))]) hx hb dX12_park_22 hl (k := 0) rfl (nI_add k8 1) (by decide) rfl (fun ls hl => ?_)
    refine lv_goto (tgt := 9) hx hb dX12_park_25 (by decide) ?_
    exact ih17 (62 - (k8 + 1)) _ _ _ _ (by omega) ⟨(k8 + 1), st83, sl10, rfl, by omega, by omega, by intro jj hk; rw [est83]; by_cases ee : jj = k8; (rw [ee, up2_same]); (rw [up2_ne (r := 3) (k := k8) (a := 3) (j := jj) _ _ (by omega)]; exact hv14_0 jj (by omega)), hF, hT, hP, hG, hG84, hS, lv_sub hl [0, 1] rfl, rfl⟩
