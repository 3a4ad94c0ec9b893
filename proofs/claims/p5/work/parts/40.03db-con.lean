set_option maxHeartbeats 4000000 in
set_option maxRecDepth 100000 in
theorem m_forbid (l : Launch) (dC : Nat → ClassId) (dI : Nat → Nat → Nat) (ar : Nat → Nat) (cy : Nat → ClassId) (sz : Nat) (hN : MN ar) (st : Nat → Nat → Int32) (sl : Nat → Nat → Int64) (va : Int32) (vb : Int32) (vc : Int32) (hI : MI st) : Met l yX12_forbid wsX12_forbid ({ frames := 3, cells := 0, slots := 0, locals := 72 }) (va_Pc [.ref (ar 0), .int va, .int vb, .int vc] (mPre dC dI ar cy sz st sl)) (va_Qi (fun (r : Int32) (x : MT) => MG [1, 2, 3, 4, 5, 6, 7, 8, 9, 10, 11, 12, 13, 14, 15, 16, 17, 19, 20, 21, 22, 23] st x.1 ∧ LQ [7, 9] sl x.2 ∧ (True)) (mB dC dI ar cy) (MA ar sz)) 0 0 (MA ar sz) := by
  refine Met.ofW (cc := cX12_forbid) (maxL := 4) (ret := (some .int)) (by decide) rfl ?_
  intro p e s m args below meth c s₁ B hml hv
  obtain ⟨rfl, hsz, hP, hK⟩ := hv
  have hx := B.exec
  have hb := B.bytes
  have hr := B.returns
  have hts := atoms_spec (ws := wsX12_forbid) B.pre
  have hown : s.vm.findClass RX12 = some m.cls := findClass_of_methodNamed B.named
  subst hsz
  have hS : va_S (MA ar s.heap.size) s.heap s.heap [] := va_S.rf
  have hG : MG [1, 2, 3, 4, 5, 6, 7, 8, 9, 10, 11, 12, 13, 14, 15, 16, 17, 19, 20, 21, 22, 23] st st := MG.rf hI
  have hl := lv_entry ([.ref (ar 0), .int va, .int vb, .int vc]) (n := 4) (Nat.le_of_ble_eq_true rfl)
  rw [lg_entry_eq]
  generalize (lg_sl ([.ref (ar 0), .int va, .int vb, .int vc]) ++ List.replicate (4 - (lg_sl ([.ref (ar 0), .int va, .int vb, .int vc])).length) Slot.unset).toArray = ls at hl ⊢
  have hl : lv_has ls 4 [(0, .ref (ar 0)), (1, .int va), (2, .int vb), (3, .int vc)] := hl
  clear hI
  have hL : LQ [7, 9] sl sl := LQ.rf
  refine lv_aload_n hx hb dX12_forbid_0 rfl (lv_at hl 0 rfl) ?_
  refine lv_iconst (v := 0) hx hb dX12_forbid_1 (by decide) ?_
  refine va_put (D := (dC, dI)) (ci := 11) (v := .int 0) (ty := .int) (C := RX12) (T := TX12) (N := 47) hx hb hts ii_X12_forbid tyX12 tyX12_ok nmX12 hown hK hP (mD hN _ _ _ _) hS 0 rfl rfl 0 (by decide) (hts _ mm_X12_forbid_1) (fun _ hh => hh) rfl (by decide +kernel) rfl rfl (Nat.le_of_ble_eq_true rfl) dX12_forbid_2 (fun H locs hP _ hS => ?_)
  have hP : va_P (dC, dI) vwCl (mw ar cy (up2 st 0 0 0) sl) H := hP
  obtain ⟨st1, hP, hG⟩ : ∃ y, va_P (dC, dI) vwCl (mw ar cy y sl) H ∧ MG [1, 2, 3, 4, 5, 6, 7, 8, 9, 10, 11, 12, 13, 14, 15, 16, 17, 19, 20, 21, 22, 23] st y := ⟨up2 st 0 0 0, hP, hG.up (rz (by decide : mr 0 0 = 0)) (pn (by decide : pcl 0 0 = 0) (by decide))⟩
  refine lv_aload_n hx hb dX12_forbid_5 rfl (lv_at hl 0 rfl) ?_
  refine lv_iload_n hx hb dX12_forbid_6 rfl (lv_at hl 1 rfl) ?_
  refine va_calli (va_runV (As := [.int va]) (rest := []) ⟨hx, hb, hml, hown, hts⟩ (m_isPlace l dC dI ar cy _ hN st1 sl va  hG.1) (cwV 1 hts gX12_forbid_X12_isPlace rfl rfl rfl (by decide +kernel) ⟨Nat.le_of_ble_eq_true rfl, Nat.le_of_ble_eq_true rfl⟩) ⟨fun a U g mk q => ⟨q.1, mPre.blind q.2⟩, va_recv hK hP (ci := 11) (q0 := 0) rfl rfl, fun U hU hW => ⟨rfl, mPre.of hP hK hU hW⟩⟩ rfl rfl hl.1 rfl (lv_room (Nat.le_of_ble_eq_true rfl)) dX12_forbid_7 ⟨Nat.le_of_ble_eq_true rfl, Nat.le_of_ble_eq_true rfl⟩) hS (fun q _ h => MA.le hS.1 q h) (MA.le hS.1) (fun r2 x t H locs ht hvm hw hB _ _ hS => ?_)
  have hP := mB.at ht hB
  clear hB ht hvm
  obtain ⟨rfl, hw⟩ := hw
  have hP : va_P (dC, dI) vwCl (mw ar cy st1 sl) _ := hP
  rcases hw with ⟨n3, rfl, hf4, rfl⟩ | rfl
  · refine lv_if_eq (tgt := 33) hx hb dX12_forbid_10 (by decide) (fun cc => absurd cc (by decide)) (fun _ => ?_)
    refine lv_iload_n hx hb dX12_forbid_13 rfl (lv_at hl 2 rfl) ?_
    refine lv_iload_n hx hb dX12_forbid_14 rfl (lv_at hl 3 rfl) ?_
    refine va_calli (va_runS (As := [.int vb, .int vc]) (rest := []) ⟨hx, hb, hml, hown, hts⟩ (m_areHours l dC dI ar cy _ hN st1 sl vb vc  hG.1) (va_cwS 2 hts gX12_forbid_X12_areHours rfl rfl rfl (by decide +kernel) ⟨Nat.le_of_ble_eq_true rfl, Nat.le_of_ble_eq_true rfl⟩) ⟨fun a U g mk q => ⟨q.1, mPre.blind q.2⟩, fun U hU hW => ⟨rfl, mPre.of hP hK hU hW⟩⟩ rfl rfl hl.1 rfl (lv_room (Nat.le_of_ble_eq_true rfl)) dX12_forbid_15 ⟨Nat.le_of_ble_eq_true rfl, Nat.le_of_ble_eq_true rfl⟩) hS (fun q _ h => MA.le hS.1 q h) (MA.le hS.1) (fun r5 x t H locs ht hvm hw hB _ _ hS => ?_)
    have hP := mB.at ht hB
    clear hB ht hvm
    obtain ⟨rfl, hw⟩ := hw
    have hP : va_P (dC, dI) vwCl (mw ar cy st1 sl) _ := hP
    rcases hw with ⟨n6, n7, rfl, hf8, hf9, rfl, rfl⟩ | rfl
    · refine lv_if_eq (tgt := 33) hx hb dX12_forbid_18 (by decide) (fun cc => absurd cc (by decide)) (fun _ => ?_)
      refine lv_aload_n hx hb dX12_forbid_21 rfl (lv_at hl 0 rfl) ?_
      refine lv_iconst (v := 1) hx hb dX12_forbid_22 (by decide) ?_
      refine lv_iload_n hx hb dX12_forbid_23 rfl (lv_at hl 1 rfl) ?_
      refine lv_iconst (v := 0) hx hb dX12_forbid_24 (by decide) ?_
      refine lv_iload_n hx hb dX12_forbid_25 rfl (lv_at hl 2 rfl) ?_
      refine lv_iload_n hx hb dX12_forbid_26 rfl (lv_at hl 3 rfl) ?_
      refine va_calli (va_runV (As := [.int 1, .int (nI n3), .int 0, .int (nI n6), .int (nI n7)]) (rest := []) ⟨hx, hb, hml, hown, hts⟩ (m_act1 l dC dI ar cy _ hN st1 sl n3 0 (nI n6) (nI n7) (by omega) hG.1) (cwV 5 hts gX12_forbid_X12_act rfl rfl rfl (by decide +kernel) ⟨Nat.le_of_ble_eq_true rfl, Nat.le_of_ble_eq_true rfl⟩) ⟨fun a U g mk q => ⟨q.1, mPre.blind q.2⟩, va_recv hK hP (ci := 11) (q0 := 0) rfl rfl, fun U hU hW => ⟨rfl, mPre.of hP hK hU hW⟩⟩ rfl rfl hl.1 rfl (lv_room (Nat.le_of_ble_eq_true rfl)) dX12_forbid_27 ⟨Nat.le_of_ble_eq_true rfl, Nat.le_of_ble_eq_true rfl⟩) hS (fun q _ h => MA.le hS.1 q h) (MA.le hS.1) (fun r10 x t H locs ht hvm hw hB _ _ hS => ?_)
      have hP := mB.at ht hB
      clear hB ht hvm
      obtain ⟨st11, sl12⟩ := x
      obtain ⟨hG2, hL2, hw⟩ := hw
      have hL : LQ [7, 9] sl sl12 := hL.tr hL2 (by decide)
      clear hL2
      have hP : va_P (dC, dI) vwCl (mw ar cy st11 sl12) _ := hP
      have hG : MG [1, 2, 3, 4, 5, 6, 7, 8, 9, 10, 11, 12, 13, 14, 15, 16, 17, 19, 20, 21, 22, 23] st st11 := hG.tr hG2 (by decide)
      clear hG2
      clear hw
      refine lv_goto (tgt := 34) hx hb dX12_forbid_30 (by decide) ?_
      exact W.iret (v := r10) hx hb hr (fun t ht hW => ⟨⟨r10, (st11, sl12), rfl, ⟨hG, hL, trivial⟩, mB.of ht hP⟩, hS.F ht⟩) hS.2.2 dX12_forbid_34
    · refine lv_if_eq (tgt := 33) hx hb dX12_forbid_18 (by decide) (fun _ => ?_) (fun cc => absurd (by decide) cc)
      refine lv_iconst (v := (-1)) hx hb dX12_forbid_33 (by decide) ?_
      exact W.iret (v := (-1)) hx hb hr (fun t ht hW => ⟨⟨(-1), (st1, sl), rfl, ⟨hG, hL, trivial⟩, mB.of ht hP⟩, hS.F ht⟩) hS.2.2 dX12_forbid_34
  · refine lv_if_eq (tgt := 33) hx hb dX12_forbid_10 (by decide) (fun _ => ?_) (fun cc => absurd (by decide) cc)
    refine lv_iconst (v := (-1)) hx hb dX12_forbid_33 (by decide) ?_
    exact W.iret (v := (-1)) hx hb hr (fun t ht hW => ⟨⟨(-1), (st1, sl), rfl, ⟨hG, hL, trivial⟩, mB.of ht hP⟩, hS.F ht⟩) hS.2.2 dX12_forbid_34
set_option maxHeartbeats 4000000 in
set_option maxRecDepth 100000 in
theorem m_fence (l : Launch) (dC : Nat → ClassId) (dI : Nat → Nat → Nat) (ar : Nat → Nat) (cy : Nat → ClassId) (sz : Nat) (hN : MN ar) (st : Nat → Nat → Int32) (sl : Nat → Nat → Int64) (va : Int32) (hI : MI st) : Met l yX12_fence wsX12_fence ({ frames := 2, cells := 0, slots := 0, locals := 51 }) (va_Pc [.ref (ar 0), .int va] (mPre dC dI ar cy sz st sl)) (va_Qi (fun (r : Int32) (x : MT) => MG [1, 2, 3, 4, 5, 6, 7, 8, 9, 10, 11, 12, 13, 14, 15, 16, 17, 19, 20, 21, 22, 23] st x.1 ∧ LQ [7, 9] sl x.2 ∧ (True)) (mB dC dI ar cy) (MA ar sz)) 0 0 (MA ar sz) := by
  refine Met.ofW (cc := cX12_fence) (maxL := 2) (ret := (some .int)) (by decide) rfl ?_
  intro p e s m args below meth c s₁ B hml hv
  obtain ⟨rfl, hsz, hP, hK⟩ := hv
  have hx := B.exec
  have hb := B.bytes
  have hr := B.returns
  have hts := atoms_spec (ws := wsX12_fence) B.pre
  have hown : s.vm.findClass RX12 = some m.cls := findClass_of_methodNamed B.named
  subst hsz
  have hS : va_S (MA ar s.heap.size) s.heap s.heap [] := va_S.rf
  have hG : MG [1, 2, 3, 4, 5, 6, 7, 8, 9, 10, 11, 12, 13, 14, 15, 16, 17, 19, 20, 21, 22, 23] st st := MG.rf hI
  have hl := lv_entry ([.ref (ar 0), .int va]) (n := 2) (Nat.le_of_ble_eq_true rfl)
  rw [lg_entry_eq]
  generalize (lg_sl ([.ref (ar 0), .int va]) ++ List.replicate (2 - (lg_sl ([.ref (ar 0), .int va])).length) Slot.unset).toArray = ls at hl ⊢
  have hl : lv_has ls 2 [(0, .ref (ar 0)), (1, .int va)] := hl
  clear hI
  have hL : LQ [7, 9] sl sl := LQ.rf
  refine lv_aload_n hx hb dX12_fence_0 rfl (lv_at hl 0 rfl) ?_
  refine lv_iconst (v := 0) hx hb dX12_fence_1 (by decide) ?_
  refine va_put (D := (dC, dI)) (ci := 11) (v := .int 0) (ty := .int) (C := RX12) (T := TX12) (N := 47) hx hb hts ii_X12_fence tyX12 tyX12_ok nmX12 hown hK hP (mD hN _ _ _ _) hS 0 rfl rfl 0 (by decide) (hts _ mm_X12_fence_1) (fun _ hh => hh) rfl (by decide +kernel) rfl rfl (Nat.le_of_ble_eq_true rfl) dX12_fence_2 (fun H locs hP _ hS => ?_)
  have hP : va_P (dC, dI) vwCl (mw ar cy (up2 st 0 0 0) sl) H := hP
  obtain ⟨st1, hP, hG⟩ : ∃ y, va_P (dC, dI) vwCl (mw ar cy y sl) H ∧ MG [1, 2, 3, 4, 5, 6, 7, 8, 9, 10, 11, 12, 13, 14, 15, 16, 17, 19, 20, 21, 22, 23] st y := ⟨up2 st 0 0 0, hP, hG.up (rz (by decide : mr 0 0 = 0)) (pn (by decide : pcl 0 0 = 0) (by decide))⟩
  refine lv_aload_n hx hb dX12_fence_5 rfl (lv_at hl 0 rfl) ?_
  refine lv_iload_n hx hb dX12_fence_6 rfl (lv_at hl 1 rfl) ?_
  refine va_calli (va_runV (As := [.int va]) (rest := []) ⟨hx, hb, hml, hown, hts⟩ (m_isPlace l dC dI ar cy _ hN st1 sl va  hG.1) (cwV 1 hts gX12_fence_X12_isPlace rfl rfl rfl (by decide +kernel) ⟨Nat.le_of_ble_eq_true rfl, Nat.le_of_ble_eq_true rfl⟩) ⟨fun a U g mk q => ⟨q.1, mPre.blind q.2⟩, va_recv hK hP (ci := 11) (q0 := 0) rfl rfl, fun U hU hW => ⟨rfl, mPre.of hP hK hU hW⟩⟩ rfl rfl hl.1 rfl (lv_room (Nat.le_of_ble_eq_true rfl)) dX12_fence_7 ⟨Nat.le_of_ble_eq_true rfl, Nat.le_of_ble_eq_true rfl⟩) hS (fun q _ h => MA.le hS.1 q h) (MA.le hS.1) (fun r2 x t H locs ht hvm hw hB _ _ hS => ?_)
  have hP := mB.at ht hB
  clear hB ht hvm
  obtain ⟨rfl, hw⟩ := hw
  have hP : va_P (dC, dI) vwCl (mw ar cy st1 sl) _ := hP
  rcases hw with ⟨n3, rfl, hf4, rfl⟩ | rfl
  · refine lv_if_ne (tgt := 15) hx hb dX12_fence_10 (by decide) (fun _ => ?_) (fun cc => absurd cc (by decide))
    refine lv_aload_n hx hb dX12_fence_15 rfl (lv_at hl 0 rfl) ?_
    refine lv_iconst (v := 5) hx hb dX12_fence_16 (by decide) ?_
    refine lv_iload_n hx hb dX12_fence_17 rfl (lv_at hl 1 rfl) ?_
    refine lv_iconst (v := 0) hx hb dX12_fence_18 (by decide) ?_
    refine lv_iconst (v := 0) hx hb dX12_fence_19 (by decide) ?_
    refine lv_iconst (v := 0) hx hb dX12_fence_20 (by decide) ?_
    refine va_calli (va_runV (As := [.int 5, .int (nI n3), .int 0, .int 0, .int 0]) (rest := []) ⟨hx, hb, hml, hown, hts⟩ (m_act5 l dC dI ar cy _ hN st1 sl (nI n3) 0 0 0  hG.1) (cwV 5 hts gX12_fence_X12_act rfl rfl rfl (by decide +kernel) ⟨Nat.le_of_ble_eq_true rfl, Nat.le_of_ble_eq_true rfl⟩) ⟨fun a U g mk q => ⟨q.1, mPre.blind q.2⟩, va_recv hK hP (ci := 11) (q0 := 0) rfl rfl, fun U hU hW => ⟨rfl, mPre.of hP hK hU hW⟩⟩ rfl rfl hl.1 rfl (lv_room (Nat.le_of_ble_eq_true rfl)) dX12_fence_21 ⟨Nat.le_of_ble_eq_true rfl, Nat.le_of_ble_eq_true rfl⟩) hS (fun q _ h => MA.le hS.1 q h) (MA.le hS.1) (fun r5 x t H locs ht hvm hw hB _ _ hS => ?_)
    have hP := mB.at ht hB
    clear hB ht hvm
    obtain ⟨st6, sl7⟩ := x
    obtain ⟨hG2, hL2, hw⟩ := hw
    have hL : LQ [7, 9] sl sl7 := hL.tr hL2 (by decide)
    clear hL2
    have hP : va_P (dC, dI) vwCl (mw ar cy st6 sl7) _ := hP
    have hG : MG [1, 2, 3, 4, 5, 6, 7, 8, 9, 10, 11, 12, 13, 14, 15, 16, 17, 19, 20, 21, 22, 23] st st6 := hG.tr hG2 (by decide)
    clear hG2
    clear hw
    refine lv_pop hx hb dX12_fence_24 rfl ?_
    refine lv_aload_n hx hb dX12_fence_25 rfl (lv_at hl 0 rfl) ?_
    refine lv_iload_n hx hb dX12_fence_26 rfl (lv_at hl 1 rfl) ?_
    refine va_calli (va_runV (As := [.int (nI n3)]) (rest := []) ⟨hx, hb, hml, hown, hts⟩ (m_isFenced l dC dI ar cy _ hN st6 sl7 (nI n3)  hG.1) (cwV 1 hts gX12_fence_X12_isFenced rfl rfl rfl (by decide +kernel) ⟨Nat.le_of_ble_eq_true rfl, Nat.le_of_ble_eq_true rfl⟩) ⟨fun a U g mk q => ⟨q.1, mPre.blind q.2⟩, va_recv hK hP (ci := 11) (q0 := 0) rfl rfl, fun U hU hW => ⟨rfl, mPre.of hP hK hU hW⟩⟩ rfl rfl hl.1 rfl (lv_room (Nat.le_of_ble_eq_true rfl)) dX12_fence_27 ⟨Nat.le_of_ble_eq_true rfl, Nat.le_of_ble_eq_true rfl⟩) hS (fun q _ h => MA.le hS.1 q h) (MA.le hS.1) (fun r8 x t H locs ht hvm hw hB _ _ hS => ?_)
    have hP := mB.at ht hB
    clear hB ht hvm
    obtain ⟨rfl, hw⟩ := hw
    have hP : va_P (dC, dI) vwCl (mw ar cy st6 sl7) _ := hP
    rcases hw with rfl | rfl
    · refine lv_if_eq (tgt := 37) hx hb dX12_fence_30 (by decide) (fun cc => absurd cc (by decide)) (fun _ => ?_)
      refine lv_iconst (v := 1) hx hb dX12_fence_33 (by decide) ?_
      refine lv_goto (tgt := 38) hx hb dX12_fence_34 (by decide) ?_
      exact W.iret (v := 1) hx hb hr (fun t ht hW => ⟨⟨1, (st6, sl7), rfl, ⟨hG, hL, trivial⟩, mB.of ht hP⟩, hS.F ht⟩) hS.2.2 dX12_fence_38
    · refine lv_if_eq (tgt := 37) hx hb dX12_fence_30 (by decide) (fun _ => ?_) (fun cc => absurd (by decide) cc)
      refine lv_iconst (v := 0) hx hb dX12_fence_37 (by decide) ?_
      exact W.iret (v := 0) hx hb hr (fun t ht hW => ⟨⟨0, (st6, sl7), rfl, ⟨hG, hL, trivial⟩, mB.of ht hP⟩, hS.F ht⟩) hS.2.2 dX12_fence_38
  · refine lv_if_ne (tgt := 15) hx hb dX12_fence_10 (by decide) (fun cc => absurd (by decide) cc) (fun _ => ?_)
    refine lv_iconst (v := (-1)) hx hb dX12_fence_13 (by decide) ?_
    exact W.iret (v := (-1)) hx hb hr (fun t ht hW => ⟨⟨(-1), (st1, sl), rfl, ⟨hG, hL, trivial⟩, mB.of ht hP⟩, hS.F ht⟩) hS.2.2 dX12_fence_14
set_option maxHeartbeats 4000000 in
set_option maxRecDepth 100000 in
theorem m_sign (l : Launch) (dC : Nat → ClassId) (dI : Nat → Nat → Nat) (ar : Nat → Nat) (cy : Nat → ClassId) (sz : Nat) (hN : MN ar) (st : Nat → Nat → Int32) (sl : Nat → Nat → Int64) (va : Int32) (hI : MI st) : Met l yX12_sign wsX12_sign ({ frames := 2, cells := 0, slots := 0, locals := 51 }) (va_Pc [.ref (ar 0), .int va] (mPre dC dI ar cy sz st sl)) (va_Qi (fun (r : Int32) (x : MT) => MG [1, 2, 3, 4, 5, 6, 7, 8, 9, 10, 11, 12, 13, 14, 15, 16, 17, 19, 20, 21, 22, 23] st x.1 ∧ LQ [7, 9] sl x.2 ∧ (True)) (mB dC dI ar cy) (MA ar sz)) 0 0 (MA ar sz) := by
  refine Met.ofW (cc := cX12_sign) (maxL := 2) (ret := (some .int)) (by decide) rfl ?_
  intro p e s m args below meth c s₁ B hml hv
  obtain ⟨rfl, hsz, hP, hK⟩ := hv
  have hx := B.exec
  have hb := B.bytes
  have hr := B.returns
  have hts := atoms_spec (ws := wsX12_sign) B.pre
  have hown : s.vm.findClass RX12 = some m.cls := findClass_of_methodNamed B.named
  subst hsz
  have hS : va_S (MA ar s.heap.size) s.heap s.heap [] := va_S.rf
  have hG : MG [1, 2, 3, 4, 5, 6, 7, 8, 9, 10, 11, 12, 13, 14, 15, 16, 17, 19, 20, 21, 22, 23] st st := MG.rf hI
  have hl := lv_entry ([.ref (ar 0), .int va]) (n := 2) (Nat.le_of_ble_eq_true rfl)
  rw [lg_entry_eq]
  generalize (lg_sl ([.ref (ar 0), .int va]) ++ List.replicate (2 - (lg_sl ([.ref (ar 0), .int va])).length) Slot.unset).toArray = ls at hl ⊢
  have hl : lv_has ls 2 [(0, .ref (ar 0)), (1, .int va)] := hl
  clear hI
  have hL : LQ [7, 9] sl sl := LQ.rf
  refine lv_aload_n hx hb dX12_sign_0 rfl (lv_at hl 0 rfl) ?_
  refine lv_iconst (v := 0) hx hb dX12_sign_1 (by decide) ?_
  refine va_put (D := (dC, dI)) (ci := 11) (v := .int 0) (ty := .int) (C := RX12) (T := TX12) (N := 47) hx hb hts ii_X12_sign tyX12 tyX12_ok nmX12 hown hK hP (mD hN _ _ _ _) hS 0 rfl rfl 0 (by decide) (hts _ mm_X12_sign_1) (fun _ hh => hh) rfl (by decide +kernel) rfl rfl (Nat.le_of_ble_eq_true rfl) dX12_sign_2 (fun H locs hP _ hS => ?_)
  have hP : va_P (dC, dI) vwCl (mw ar cy (up2 st 0 0 0) sl) H := hP
  obtain ⟨st1, hP, hG⟩ : ∃ y, va_P (dC, dI) vwCl (mw ar cy y sl) H ∧ MG [1, 2, 3, 4, 5, 6, 7, 8, 9, 10, 11, 12, 13, 14, 15, 16, 17, 19, 20, 21, 22, 23] st y := ⟨up2 st 0 0 0, hP, hG.up (rz (by decide : mr 0 0 = 0)) (pn (by decide : pcl 0 0 = 0) (by decide))⟩
  refine lv_iload_n hx hb dX12_sign_5 rfl (lv_at hl 1 rfl) ?_
  refine lv_iconst (v := 0) hx hb dX12_sign_6 (by decide) ?_
  refine lv_bipush (v := 12) hx hb dX12_sign_7 (by decide) ?_
  refine va_calli (va_runS (As := [.int va, .int 0, .int 12]) (rest := []) ⟨hx, hb, hml, hown, hts⟩ (m_isIn l dC dI ar cy _ hN st1 sl va 0 12  hG.1) (va_cwS 3 hts gX12_sign_X12_isIn rfl rfl rfl (by decide +kernel) ⟨Nat.le_of_ble_eq_true rfl, Nat.le_of_ble_eq_true rfl⟩) ⟨fun a U g mk q => ⟨q.1, mPre.blind q.2⟩, fun U hU hW => ⟨rfl, mPre.of hP hK hU hW⟩⟩ rfl rfl hl.1 rfl (lv_room (Nat.le_of_ble_eq_true rfl)) dX12_sign_9 ⟨Nat.le_of_ble_eq_true rfl, Nat.le_of_ble_eq_true rfl⟩) hS (fun q _ h => MA.le hS.1 q h) (MA.le hS.1) (fun r2 x t H locs ht hvm hw hB _ _ hS => ?_)
  have hP := mB.at ht hB
  clear hB ht hvm
  obtain ⟨rfl, hw⟩ := hw
  have hP : va_P (dC, dI) vwCl (mw ar cy st1 sl) _ := hP
  rcases hw with ⟨rfl, hf3, hf4⟩ | rfl
  · obtain ⟨n5, hn5a, hn5b, rfl⟩ := zz_rng (a := 0) (b := 12) (by omega) hf3 (by omega) hf4
    refine lv_if_eq (tgt := 27) hx hb dX12_sign_12 (by decide) (fun cc => absurd cc (by decide)) (fun _ => ?_)
    refine lv_aload_n hx hb dX12_sign_15 rfl (lv_at hl 0 rfl) ?_
    refine lv_iconst (v := 2) hx hb dX12_sign_16 (by decide) ?_
    refine lv_iload_n hx hb dX12_sign_17 rfl (lv_at hl 1 rfl) ?_
    refine lv_iconst (v := 0) hx hb dX12_sign_18 (by decide) ?_
    refine lv_iconst (v := 0) hx hb dX12_sign_19 (by decide) ?_
    refine lv_iconst (v := 0) hx hb dX12_sign_20 (by decide) ?_
    refine va_calli (va_runV (As := [.int 2, .int (nI n5), .int 0, .int 0, .int 0]) (rest := []) ⟨hx, hb, hml, hown, hts⟩ (m_act2 l dC dI ar cy _ hN st1 sl n5 0 0 0 (by omega) hG.1) (cwV 5 hts gX12_sign_X12_act rfl rfl rfl (by decide +kernel) ⟨Nat.le_of_ble_eq_true rfl, Nat.le_of_ble_eq_true rfl⟩) ⟨fun a U g mk q => ⟨q.1, mPre.blind q.2⟩, va_recv hK hP (ci := 11) (q0 := 0) rfl rfl, fun U hU hW => ⟨rfl, mPre.of hP hK hU hW⟩⟩ rfl rfl hl.1 rfl (lv_room (Nat.le_of_ble_eq_true rfl)) dX12_sign_21 ⟨Nat.le_of_ble_eq_true rfl, Nat.le_of_ble_eq_true rfl⟩) hS (fun q _ h => MA.le hS.1 q h) (MA.le hS.1) (fun r6 x t H locs ht hvm hw hB _ _ hS => ?_)
    have hP := mB.at ht hB
    clear hB ht hvm
    obtain ⟨st7, sl8⟩ := x
    obtain ⟨hG2, hL2, hw⟩ := hw
    have hL : LQ [7, 9] sl sl8 := hL.tr hL2 (by decide)
    clear hL2
    have hP : va_P (dC, dI) vwCl (mw ar cy st7 sl8) _ := hP
    have hG : MG [1, 2, 3, 4, 5, 6, 7, 8, 9, 10, 11, 12, 13, 14, 15, 16, 17, 19, 20, 21, 22, 23] st st7 := hG.tr hG2 (by decide)
    clear hG2
    clear hw
    refine lv_goto (tgt := 28) hx hb dX12_sign_24 (by decide) ?_
    exact W.iret (v := r6) hx hb hr (fun t ht hW => ⟨⟨r6, (st7, sl8), rfl, ⟨hG, hL, trivial⟩, mB.of ht hP⟩, hS.F ht⟩) hS.2.2 dX12_sign_28
  · refine lv_if_eq (tgt := 27) hx hb dX12_sign_12 (by decide) (fun _ => ?_) (fun cc => absurd (by decide) cc)
    refine lv_iconst (v := (-1)) hx hb dX12_sign_27 (by decide) ?_
    exact W.iret (v := (-1)) hx hb hr (fun t ht hW => ⟨⟨(-1), (st1, sl), rfl, ⟨hG, hL, trivial⟩, mB.of ht hP⟩, hS.F ht⟩) hS.2.2 dX12_sign_28
set_option maxHeartbeats 4000000 in
set_option maxRecDepth 100000 in
theorem m_hold (l : Launch) (dC : Nat → ClassId) (dI : Nat → Nat → Nat) (ar : Nat → Nat) (cy : Nat → ClassId) (sz : Nat) (hN : MN ar) (st : Nat → Nat → Int32) (sl : Nat → Nat → Int64) (va : Int32) (vb : Int32) (hI : MI st) : Met l yX12_hold wsX12_hold ({ frames := 3, cells := 0, slots := 0, locals := 72 }) (va_Pc [.ref (ar 0), .int va, .int vb] (mPre dC dI ar cy sz st sl)) (va_Qi (fun (r : Int32) (x : MT) => MG [1, 2, 3, 4, 5, 6, 7, 8, 9, 10, 11, 12, 13, 14, 15, 16, 17, 19, 20, 21, 22, 23] st x.1 ∧ LQ [7, 9] sl x.2 ∧ (True)) (mB dC dI ar cy) (MA ar sz)) 0 0 (MA ar sz) := by
  refine Met.ofW (cc := cX12_hold) (maxL := 3) (ret := (some .int)) (by decide) rfl ?_
  intro p e s m args below meth c s₁ B hml hv
  obtain ⟨rfl, hsz, hP, hK⟩ := hv
  have hx := B.exec
  have hb := B.bytes
  have hr := B.returns
  have hts := atoms_spec (ws := wsX12_hold) B.pre
  have hown : s.vm.findClass RX12 = some m.cls := findClass_of_methodNamed B.named
  subst hsz
  have hS : va_S (MA ar s.heap.size) s.heap s.heap [] := va_S.rf
  have hG : MG [1, 2, 3, 4, 5, 6, 7, 8, 9, 10, 11, 12, 13, 14, 15, 16, 17, 19, 20, 21, 22, 23] st st := MG.rf hI
  have hl := lv_entry ([.ref (ar 0), .int va, .int vb]) (n := 3) (Nat.le_of_ble_eq_true rfl)
  rw [lg_entry_eq]
  generalize (lg_sl ([.ref (ar 0), .int va, .int vb]) ++ List.replicate (3 - (lg_sl ([.ref (ar 0), .int va, .int vb])).length) Slot.unset).toArray = ls at hl ⊢
  have hl : lv_has ls 3 [(0, .ref (ar 0)), (1, .int va), (2, .int vb)] := hl
  clear hI
  have hL : LQ [7, 9] sl sl := LQ.rf
  refine lv_aload_n hx hb dX12_hold_0 rfl (lv_at hl 0 rfl) ?_
  refine lv_iconst (v := 0) hx hb dX12_hold_1 (by decide) ?_
  refine va_put (D := (dC, dI)) (ci := 11) (v := .int 0) (ty := .int) (C := RX12) (T := TX12) (N := 47) hx hb hts ii_X12_hold tyX12 tyX12_ok nmX12 hown hK hP (mD hN _ _ _ _) hS 0 rfl rfl 0 (by decide) (hts _ mm_X12_hold_1) (fun _ hh => hh) rfl (by decide +kernel) rfl rfl (Nat.le_of_ble_eq_true rfl) dX12_hold_2 (fun H locs hP _ hS => ?_)
  have hP : va_P (dC, dI) vwCl (mw ar cy (up2 st 0 0 0) sl) H := hP
  obtain ⟨st1, hP, hG⟩ : ∃ y, va_P (dC, dI) vwCl (mw ar cy y sl) H ∧ MG [1, 2, 3, 4, 5, 6, 7, 8, 9, 10, 11, 12, 13, 14, 15, 16, 17, 19, 20, 21, 22, 23] st y := ⟨up2 st 0 0 0, hP, hG.up (rz (by decide : mr 0 0 = 0)) (pn (by decide : pcl 0 0 = 0) (by decide))⟩
  refine lv_aload_n hx hb dX12_hold_5 rfl (lv_at hl 0 rfl) ?_
  refine lv_iload_n hx hb dX12_hold_6 rfl (lv_at hl 1 rfl) ?_
  refine va_calli (va_runV (As := [.int va]) (rest := []) ⟨hx, hb, hml, hown, hts⟩ (m_isDog l dC dI ar cy _ hN st1 sl va  hG.1) (cwV 1 hts gX12_hold_X12_isDog rfl rfl rfl (by decide +kernel) ⟨Nat.le_of_ble_eq_true rfl, Nat.le_of_ble_eq_true rfl⟩) ⟨fun a U g mk q => ⟨q.1, mPre.blind q.2⟩, va_recv hK hP (ci := 11) (q0 := 0) rfl rfl, fun U hU hW => ⟨rfl, mPre.of hP hK hU hW⟩⟩ rfl rfl hl.1 rfl (lv_room (Nat.le_of_ble_eq_true rfl)) dX12_hold_7 ⟨Nat.le_of_ble_eq_true rfl, Nat.le_of_ble_eq_true rfl⟩) hS (fun q _ h => MA.le hS.1 q h) (MA.le hS.1) (fun r2 x t H locs ht hvm hw hB _ _ hS => ?_)
  have hP := mB.at ht hB
  clear hB ht hvm
  obtain ⟨rfl, hw⟩ := hw
  have hP : va_P (dC, dI) vwCl (mw ar cy st1 sl) _ := hP
  rcases hw with ⟨n3, rfl, hf4, rfl⟩ | rfl
  · refine lv_if_eq (tgt := 34) hx hb dX12_hold_10 (by decide) (fun cc => absurd cc (by decide)) (fun _ => ?_)
    refine lv_iload_n hx hb dX12_hold_13 rfl (lv_at hl 2 rfl) ?_
    refine lv_iconst (v := 0) hx hb dX12_hold_14 (by decide) ?_
    refine lv_iconst (v := 1) hx hb dX12_hold_15 (by decide) ?_
    refine va_calli (va_runS (As := [.int vb, .int 0, .int 1]) (rest := []) ⟨hx, hb, hml, hown, hts⟩ (m_isIn l dC dI ar cy _ hN st1 sl vb 0 1  hG.1) (va_cwS 3 hts gX12_hold_X12_isIn rfl rfl rfl (by decide +kernel) ⟨Nat.le_of_ble_eq_true rfl, Nat.le_of_ble_eq_true rfl⟩) ⟨fun a U g mk q => ⟨q.1, mPre.blind q.2⟩, fun U hU hW => ⟨rfl, mPre.of hP hK hU hW⟩⟩ rfl rfl hl.1 rfl (lv_room (Nat.le_of_ble_eq_true rfl)) dX12_hold_16 ⟨Nat.le_of_ble_eq_true rfl, Nat.le_of_ble_eq_true rfl⟩) hS (fun q _ h => MA.le hS.1 q h) (MA.le hS.1) (fun r5 x t H locs ht hvm hw hB _ _ hS => ?_)
    have hP := mB.at ht hB
    clear hB ht hvm
    obtain ⟨rfl, hw⟩ := hw
    have hP : va_P (dC, dI) vwCl (mw ar cy st1 sl) _ := hP
    rcases hw with ⟨rfl, hf6, hf7⟩ | rfl
    · obtain ⟨n8, hn8a, hn8b, rfl⟩ := zz_rng (a := 0) (b := 1) (by omega) hf6 (by omega) hf7
      refine lv_if_eq (tgt := 34) hx hb dX12_hold_19 (by decide) (fun cc => absurd cc (by decide)) (fun _ => ?_)
      refine lv_aload_n hx hb dX12_hold_22 rfl (lv_at hl 0 rfl) ?_
      refine lv_iconst (v := 3) hx hb dX12_hold_23 (by decide) ?_
      refine lv_iload_n hx hb dX12_hold_24 rfl (lv_at hl 1 rfl) ?_
      refine lv_iload_n hx hb dX12_hold_25 rfl (lv_at hl 2 rfl) ?_
      refine lv_iconst (v := 0) hx hb dX12_hold_26 (by decide) ?_
      refine lv_iconst (v := 0) hx hb dX12_hold_27 (by decide) ?_
      refine va_calli (va_runV (As := [.int 3, .int (nI n3), .int (nI n8), .int 0, .int 0]) (rest := []) ⟨hx, hb, hml, hown, hts⟩ (m_act3 l dC dI ar cy _ hN st1 sl (nI n3) (nI n8) 0 0  hG.1) (cwV 5 hts gX12_hold_X12_act rfl rfl rfl (by decide +kernel) ⟨Nat.le_of_ble_eq_true rfl, Nat.le_of_ble_eq_true rfl⟩) ⟨fun a U g mk q => ⟨q.1, mPre.blind q.2⟩, va_recv hK hP (ci := 11) (q0 := 0) rfl rfl, fun U hU hW => ⟨rfl, mPre.of hP hK hU hW⟩⟩ rfl rfl hl.1 rfl (lv_room (Nat.le_of_ble_eq_true rfl)) dX12_hold_28 ⟨Nat.le_of_ble_eq_true rfl, Nat.le_of_ble_eq_true rfl⟩) hS (fun q _ h => MA.le hS.1 q h) (MA.le hS.1) (fun r9 x t H locs ht hvm hw hB _ _ hS => ?_)
      have hP := mB.at ht hB
      clear hB ht hvm
      obtain ⟨st10, sl11⟩ := x
      obtain ⟨hG2, hL2, hw⟩ := hw
      have hL : LQ [7, 9] sl sl11 := hL.tr hL2 (by decide)
      clear hL2
      have hP : va_P (dC, dI) vwCl (mw ar cy st10 sl11) _ := hP
      have hG : MG [1, 2, 3, 4, 5, 6, 7, 8, 9, 10, 11, 12, 13, 14, 15, 16, 17, 19, 20, 21, 22, 23] st st10 := hG.tr hG2 (by decide)
      clear hG2
      clear hw
      refine lv_goto (tgt := 35) hx hb dX12_hold_31 (by decide) ?_
      exact W.iret (v := r9) hx hb hr (fun t ht hW => ⟨⟨r9, (st10, sl11), rfl, ⟨hG, hL, trivial⟩, mB.of ht hP⟩, hS.F ht⟩) hS.2.2 dX12_hold_35
    · refine lv_if_eq (tgt := 34) hx hb dX12_hold_19 (by decide) (fun _ => ?_) (fun cc => absurd (by decide) cc)
      refine lv_iconst (v := (-1)) hx hb dX12_hold_34 (by decide) ?_
      exact W.iret (v := (-1)) hx hb hr (fun t ht hW => ⟨⟨(-1), (st1, sl), rfl, ⟨hG, hL, trivial⟩, mB.of ht hP⟩, hS.F ht⟩) hS.2.2 dX12_hold_35
  · refine lv_if_eq (tgt := 34) hx hb dX12_hold_10 (by decide) (fun _ => ?_) (fun cc => absurd (by decide) cc)
    refine lv_iconst (v := (-1)) hx hb dX12_hold_34 (by decide) ?_
    exact W.iret (v := (-1)) hx hb hr (fun t ht hW => ⟨⟨(-1), (st1, sl), rfl, ⟨hG, hL, trivial⟩, mB.of ht hP⟩, hS.F ht⟩) hS.2.2 dX12_hold_35
set_option maxHeartbeats 4000000 in
set_option maxRecDepth 100000 in
theorem m_come_ (l : Launch) (dC : Nat → ClassId) (dI : Nat → Nat → Nat) (ar : Nat → Nat) (cy : Nat → ClassId) (sz : Nat) (hN : MN ar) (st : Nat → Nat → Int32) (sl : Nat → Nat → Int64) (va : Int32) (vb : Int32) (vc : Int32) (vd : Int32) (hI : MI st) : Met l yX12_come_ wsX12_come_ ({ frames := 2, cells := 0, slots := 0, locals := 51 }) (va_Pc [.ref (ar 0), .int va, .int vb, .int vc, .int vd] (mPre dC dI ar cy sz st sl)) (va_Qi (fun (r : Int32) (x : MT) => MG [1, 2, 3, 4, 5, 6, 7, 8, 9, 10, 11, 12, 13, 14, 15, 16, 17, 19, 20, 21, 22, 23] st x.1 ∧ LQ [7, 9] sl x.2 ∧ (True)) (mB dC dI ar cy) (MA ar sz)) 0 0 (MA ar sz) := by
  refine Met.ofW (cc := cX12_come_) (maxL := 5) (ret := (some .int)) (by decide) rfl ?_
  intro p e s m args below meth c s₁ B hml hv
  obtain ⟨rfl, hsz, hP, hK⟩ := hv
  have hx := B.exec
  have hb := B.bytes
  have hr := B.returns
  have hts := atoms_spec (ws := wsX12_come_) B.pre
  have hown : s.vm.findClass RX12 = some m.cls := findClass_of_methodNamed B.named
  subst hsz
  have hS : va_S (MA ar s.heap.size) s.heap s.heap [] := va_S.rf
  have hG : MG [1, 2, 3, 4, 5, 6, 7, 8, 9, 10, 11, 12, 13, 14, 15, 16, 17, 19, 20, 21, 22, 23] st st := MG.rf hI
  have hl := lv_entry ([.ref (ar 0), .int va, .int vb, .int vc, .int vd]) (n := 5) (Nat.le_of_ble_eq_true rfl)
  rw [lg_entry_eq]
  generalize (lg_sl ([.ref (ar 0), .int va, .int vb, .int vc, .int vd]) ++ List.replicate (5 - (lg_sl ([.ref (ar 0), .int va, .int vb, .int vc, .int vd])).length) Slot.unset).toArray = ls at hl ⊢
  have hl : lv_has ls 5 [(0, .ref (ar 0)), (1, .int va), (2, .int vb), (3, .int vc), (4, .int vd)] := hl
  clear hI
  have hL : LQ [7, 9] sl sl := LQ.rf
  refine lv_aload_n hx hb dX12_come__0 rfl (lv_at hl 0 rfl) ?_
  refine lv_iconst (v := 0) hx hb dX12_come__1 (by decide) ?_
  refine va_put (D := (dC, dI)) (ci := 11) (v := .int 0) (ty := .int) (C := RX12) (T := TX12) (N := 47) hx hb hts ii_X12_come_ tyX12 tyX12_ok nmX12 hown hK hP (mD hN _ _ _ _) hS 0 rfl rfl 0 (by decide) (hts _ mm_X12_come__1) (fun _ hh => hh) rfl (by decide +kernel) rfl rfl (Nat.le_of_ble_eq_true rfl) dX12_come__2 (fun H locs hP _ hS => ?_)
  have hP : va_P (dC, dI) vwCl (mw ar cy (up2 st 0 0 0) sl) H := hP
  obtain ⟨st1, hP, hG⟩ : ∃ y, va_P (dC, dI) vwCl (mw ar cy y sl) H ∧ MG [1, 2, 3, 4, 5, 6, 7, 8, 9, 10, 11, 12, 13, 14, 15, 16, 17, 19, 20, 21, 22, 23] st y := ⟨up2 st 0 0 0, hP, hG.up (rz (by decide : mr 0 0 = 0)) (pn (by decide : pcl 0 0 = 0) (by decide))⟩
  refine lv_aload_n hx hb dX12_come__5 rfl (lv_at hl 0 rfl) ?_
  refine lv_iload_n hx hb dX12_come__6 rfl (lv_at hl 1 rfl) ?_
  refine va_calli (va_runV (As := [.int va]) (rest := []) ⟨hx, hb, hml, hown, hts⟩ (m_isPerson l dC dI ar cy _ hN st1 sl va  hG.1) (cwV 1 hts gX12_come__X12_isPerson rfl rfl rfl (by decide +kernel) ⟨Nat.le_of_ble_eq_true rfl, Nat.le_of_ble_eq_true rfl⟩) ⟨fun a U g mk q => ⟨q.1, mPre.blind q.2⟩, va_recv hK hP (ci := 11) (q0 := 0) rfl rfl, fun U hU hW => ⟨rfl, mPre.of hP hK hU hW⟩⟩ rfl rfl hl.1 rfl (lv_room (Nat.le_of_ble_eq_true rfl)) dX12_come__7 ⟨Nat.le_of_ble_eq_true rfl, Nat.le_of_ble_eq_true rfl⟩) hS (fun q _ h => MA.le hS.1 q h) (MA.le hS.1) (fun r2 x t H locs ht hvm hw hB _ _ hS => ?_)
  have hP := mB.at ht hB
  clear hB ht hvm
  obtain ⟨rfl, hw⟩ := hw
  have hP : va_P (dC, dI) vwCl (mw ar cy st1 sl) _ := hP
  rcases hw with ⟨n3, rfl, hf4, rfl⟩ | rfl
  · refine lv_if_eq (tgt := 43) hx hb dX12_come__10 (by decide) (fun cc => absurd cc (by decide)) (fun _ => ?_)
    refine lv_aload_n hx hb dX12_come__13 rfl (lv_at hl 0 rfl) ?_
    refine lv_iload_n hx hb dX12_come__14 rfl (lv_at hl 2 rfl) ?_
    refine va_calli (va_runV (As := [.int vb]) (rest := []) ⟨hx, hb, hml, hown, hts⟩ (m_isPlace l dC dI ar cy _ hN st1 sl vb  hG.1) (cwV 1 hts gX12_come__X12_isPlace rfl rfl rfl (by decide +kernel) ⟨Nat.le_of_ble_eq_true rfl, Nat.le_of_ble_eq_true rfl⟩) ⟨fun a U g mk q => ⟨q.1, mPre.blind q.2⟩, va_recv hK hP (ci := 11) (q0 := 0) rfl rfl, fun U hU hW => ⟨rfl, mPre.of hP hK hU hW⟩⟩ rfl rfl hl.1 rfl (lv_room (Nat.le_of_ble_eq_true rfl)) dX12_come__15 ⟨Nat.le_of_ble_eq_true rfl, Nat.le_of_ble_eq_true rfl⟩) hS (fun q _ h => MA.le hS.1 q h) (MA.le hS.1) (fun r5 x t H locs ht hvm hw hB _ _ hS => ?_)
    have hP := mB.at ht hB
    clear hB ht hvm
    obtain ⟨rfl, hw⟩ := hw
    have hP : va_P (dC, dI) vwCl (mw ar cy st1 sl) _ := hP
    rcases hw with ⟨n6, rfl, hf7, rfl⟩ | rfl
    · refine lv_if_eq (tgt := 43) hx hb dX12_come__18 (by decide) (fun cc => absurd cc (by decide)) (fun _ => ?_)
      refine lv_iload_n hx hb dX12_come__21 rfl (lv_at hl 3 rfl) ?_
      refine lv_iload hx hb dX12_come__22 (lv_at hl 4 rfl) ?_
      refine va_calli (va_runS (As := [.int vc, .int vd]) (rest := []) ⟨hx, hb, hml, hown, hts⟩ (m_areHours l dC dI ar cy _ hN st1 sl vc vd  hG.1) (va_cwS 2 hts gX12_come__X12_areHours rfl rfl rfl (by decide +kernel) ⟨Nat.le_of_ble_eq_true rfl, Nat.le_of_ble_eq_true rfl⟩) ⟨fun a U g mk q => ⟨q.1, mPre.blind q.2⟩, fun U hU hW => ⟨rfl, mPre.of hP hK hU hW⟩⟩ rfl rfl hl.1 rfl (lv_room (Nat.le_of_ble_eq_true rfl)) dX12_come__24 ⟨Nat.le_of_ble_eq_true rfl, Nat.le_of_ble_eq_true rfl⟩) hS (fun q _ h => MA.le hS.1 q h) (MA.le hS.1) (fun r8 x t H locs ht hvm hw hB _ _ hS => ?_)
      have hP := mB.at ht hB
      clear hB ht hvm
      obtain ⟨rfl, hw⟩ := hw
      have hP : va_P (dC, dI) vwCl (mw ar cy st1 sl) _ := hP
      rcases hw with ⟨n9, n10, rfl, hf11, hf12, rfl, rfl⟩ | rfl
      · refine lv_if_eq (tgt := 43) hx hb dX12_come__27 (by decide) (fun cc => absurd cc (by decide)) (fun _ => ?_)
        refine lv_aload_n hx hb dX12_come__30 rfl (lv_at hl 0 rfl) ?_
        refine lv_iconst (v := 4) hx hb dX12_come__31 (by decide) ?_
        refine lv_iload_n hx hb dX12_come__32 rfl (lv_at hl 1 rfl) ?_
        refine lv_iload_n hx hb dX12_come__33 rfl (lv_at hl 2 rfl) ?_
        refine lv_iload_n hx hb dX12_come__34 rfl (lv_at hl 3 rfl) ?_
        refine lv_iload hx hb dX12_come__35 (lv_at hl 4 rfl) ?_
        refine va_calli (va_runV (As := [.int 4, .int (nI n3), .int (nI n6), .int (nI n9), .int (nI n10)]) (rest := []) ⟨hx, hb, hml, hown, hts⟩ (m_act4 l dC dI ar cy _ hN st1 sl n3 n6 (nI n9) (nI n10) (by omega) (by omega) hG.1) (cwV 5 hts gX12_come__X12_act rfl rfl rfl (by decide +kernel) ⟨Nat.le_of_ble_eq_true rfl, Nat.le_of_ble_eq_true rfl⟩) ⟨fun a U g mk q => ⟨q.1, mPre.blind q.2⟩, va_recv hK hP (ci := 11) (q0 := 0) rfl rfl, fun U hU hW => ⟨rfl, mPre.of hP hK hU hW⟩⟩ rfl rfl hl.1 rfl (lv_room (Nat.le_of_ble_eq_true rfl)) dX12_come__37 ⟨Nat.le_of_ble_eq_true rfl, Nat.le_of_ble_eq_true rfl⟩) hS (fun q _ h => MA.le hS.1 q h) (MA.le hS.1) (fun r13 x t H locs ht hvm hw hB _ _ hS => ?_)
        have hP := mB.at ht hB
        clear hB ht hvm
        obtain ⟨st14, sl15⟩ := x
        obtain ⟨hG2, hL2, hw⟩ := hw
        have hL : LQ [7, 9] sl sl15 := hL.tr hL2 (by decide)
        clear hL2
        have hP : va_P (dC, dI) vwCl (mw ar cy st14 sl15) _ := hP
        have hG : MG [1, 2, 3, 4, 5, 6, 7, 8, 9, 10, 11, 12, 13, 14, 15, 16, 17, 19, 20, 21, 22, 23] st st14 := hG.tr hG2 (by decide)
        clear hG2
        clear hw
        refine lv_goto (tgt := 44) hx hb dX12_come__40 (by decide) ?_
        exact W.iret (v := r13) hx hb hr (fun t ht hW => ⟨⟨r13, (st14, sl15), rfl, ⟨hG, hL, trivial⟩, mB.of ht hP⟩, hS.F ht⟩) hS.2.2 dX12_come__44
      · refine lv_if_eq (tgt := 43) hx hb dX12_come__27 (by decide) (fun _ => ?_) (fun cc => absurd (by decide) cc)
        refine lv_iconst (v := (-1)) hx hb dX12_come__43 (by decide) ?_
        exact W.iret (v := (-1)) hx hb hr (fun t ht hW => ⟨⟨(-1), (st1, sl), rfl, ⟨hG, hL, trivial⟩, mB.of ht hP⟩, hS.F ht⟩) hS.2.2 dX12_come__44
    · refine lv_if_eq (tgt := 43) hx hb dX12_come__18 (by decide) (fun _ => ?_) (fun cc => absurd (by decide) cc)
      refine lv_iconst (v := (-1)) hx hb dX12_come__43 (by decide) ?_
      exact W.iret (v := (-1)) hx hb hr (fun t ht hW => ⟨⟨(-1), (st1, sl), rfl, ⟨hG, hL, trivial⟩, mB.of ht hP⟩, hS.F ht⟩) hS.2.2 dX12_come__44
  · refine lv_if_eq (tgt := 43) hx hb dX12_come__10 (by decide) (fun _ => ?_) (fun cc => absurd (by decide) cc)
    refine lv_iconst (v := (-1)) hx hb dX12_come__43 (by decide) ?_
    exact W.iret (v := (-1)) hx hb hr (fun t ht hW => ⟨⟨(-1), (st1, sl), rfl, ⟨hG, hL, trivial⟩, mB.of ht hP⟩, hS.F ht⟩) hS.2.2 dX12_come__44
set_option maxHeartbeats 4000000 in
set_option maxRecDepth 100000 in
theorem m_undo (l : Launch) (dC : Nat → ClassId) (dI : Nat → Nat → Nat) (ar : Nat → Nat) (cy : Nat → ClassId) (sz : Nat) (hN : MN ar) (st : Nat → Nat → Int32) (sl : Nat → Nat → Int64) (hI : MI st) : Met l yX12_undo wsX12_undo ({ frames := 0, cells := 0, slots := 0, locals := 0 }) (va_Pc [.ref (ar 0)] (mPre dC dI ar cy sz st sl)) (va_Qi (fun (r : Int32) (x : MT) => MG [1, 2, 3, 4, 5, 6, 7, 8, 9, 10, 11, 12, 13, 14, 15, 16, 17, 19, 20, 21, 22, 23] st x.1 ∧ LQ [7, 9] sl x.2 ∧ (True)) (mB dC dI ar cy) (MA ar sz)) 0 0 (MA ar sz) := by
  refine Met.ofW (cc := cX12_undo) (maxL := 2) (ret := (some .int)) (by decide) rfl ?_
  intro p e s m args below meth c s₁ B hml hv
  obtain ⟨rfl, hsz, hP, hK⟩ := hv
  have hx := B.exec
  have hb := B.bytes
  have hr := B.returns
  have hts := atoms_spec (ws := wsX12_undo) B.pre
  have hown : s.vm.findClass RX12 = some m.cls := findClass_of_methodNamed B.named
  subst hsz
  have hS : va_S (MA ar s.heap.size) s.heap s.heap [] := va_S.rf
  have hG : MG [1, 2, 3, 4, 5, 6, 7, 8, 9, 10, 11, 12, 13, 14, 15, 16, 17, 19, 20, 21, 22, 23] st st := MG.rf hI
  have hl := lv_entry ([.ref (ar 0)]) (n := 2) (Nat.le_of_ble_eq_true rfl)
  rw [lg_entry_eq]
  generalize (lg_sl ([.ref (ar 0)]) ++ List.replicate (2 - (lg_sl ([.ref (ar 0)])).length) Slot.unset).toArray = ls at hl ⊢
  have hl : lv_has ls 2 [(0, .ref (ar 0))] := hl
  clear hI
  have hL : LQ [7, 9] sl sl := LQ.rf
  refine lv_aload_n hx hb dX12_undo_0 rfl (lv_at hl 0 rfl) ?_
  refine lv_iconst (v := 0) hx hb dX12_undo_1 (by decide) ?_
  refine va_put (D := (dC, dI)) (ci := 11) (v := .int 0) (ty := .int) (C := RX12) (T := TX12) (N := 47) hx hb hts ii_X12_undo tyX12 tyX12_ok nmX12 hown hK hP (mD hN _ _ _ _) hS 0 rfl rfl 0 (by decide) (hts _ mm_X12_undo_1) (fun _ hh => hh) rfl (by decide +kernel) rfl rfl (Nat.le_of_ble_eq_true rfl) dX12_undo_2 (fun H locs hP _ hS => ?_)
  have hP : va_P (dC, dI) vwCl (mw ar cy (up2 st 0 0 0) sl) H := hP
  obtain ⟨st1, est1⟩ : ∃ y, y = up2 st 0 0 0 := ⟨_, rfl⟩
  have hG : MG [1, 2, 3, 4, 5, 6, 7, 8, 9, 10, 11, 12, 13, 14, 15, 16, 17, 19, 20, 21, 22, 23] st st1 := by rw [est1]; exact hG.up (rz (by decide : mr 0 0 = 0)) (pn (by decide : pcl 0 0 = 0) (by decide))
  rw [← est1] at hP
  refine lv_aload_n hx hb dX12_undo_5 rfl (lv_at hl 0 rfl) ?_
  refine va_get (D := (dC, dI)) (ci := 11) (v := .int (st1 0 23)) (C := RX12) (T := TX12) (N := 47) hx hb hts ii_X12_undo hown hK hP 0 rfl rfl 23 (by decide) (hts _ mm_X12_undo_2) (fun _ hh => hh) rfl dX12_undo_6 ?_
  obtain ⟨n2, hn2, en2⟩ := hG.1.at (r := 0) (k := 23) (by decide : mr 0 23 = 9) (by decide)
  refine zz_top (v := nI n2) (by exact en2) ?_
  refine lv_if_ne (tgt := 14) hx hb dX12_undo_9 (by decide) (fun c1 => ?_) (fun c1 => ?_)
  · have c1 : ¬ n2 = 0 := fun hh => c1 ((nI_eq (a := n2) (b := 0) (by omega) (by omega)).mpr hh)
    refine lv_aload_n hx hb dX12_undo_14 rfl (lv_at hl 0 rfl) ?_
    refine lv_dup hx hb dX12_undo_15 rfl ?_
    refine va_get (D := (dC, dI)) (ci := 11) (v := .int (st1 0 23)) (C := RX12) (T := TX12) (N := 47) hx hb hts ii_X12_undo hown hK hP 0 rfl rfl 23 (by decide) (hts _ mm_X12_undo_2) (fun _ hh => hh) rfl dX12_undo_16 ?_
    refine zz_top (v := (nI n2)) (by show st1 0 23 = _; rw [en2]) ?_
    refine lv_iconst (v := 1) hx hb dX12_undo_19 (by decide) ?_
    refine lv_isub hx hb dX12_undo_20 ?_
    refine zz_top (v := nI (n2 - 1)) (nI_subN (a := n2) (b := 1) (by omega) (by omega)) ?_
    refine va_put (D := (dC, dI)) (ci := 11) (v := .int (nI (n2 - 1))) (ty := .int) (C := RX12) (T := TX12) (N := 47) hx hb hts ii_X12_undo tyX12 tyX12_ok nmX12 hown hK hP (mD hN _ _ _ _) hS 0 rfl rfl 23 (by decide) (hts _ mm_X12_undo_2) (fun _ hh => hh) rfl (by decide +kernel) rfl rfl (Nat.le_of_ble_eq_true rfl) dX12_undo_21 (fun H locs hP _ hS => ?_)
    have hP : va_P (dC, dI) vwCl (mw ar cy (up2 st1 0 23 (nI (n2 - 1))) sl) H := hP
    obtain ⟨st3, est3⟩ : ∃ y, y = up2 st1 0 23 (nI (n2 - 1)) := ⟨_, rfl⟩
    have hG : MG [1, 2, 3, 4, 5, 6, 7, 8, 9, 10, 11, 12, 13, 14, 15, 16, 17, 19, 20, 21, 22, 23] st st3 := by rw [est3]; exact hG.up (rn (n := (n2 - 1)) (by decide : mr 0 23 = 9) (by omega)) (pn (by decide : pcl 0 23 = 18) (by decide))
    rw [← est3] at hP
    refine lv_iconst (v := 0) hx hb dX12_undo_24 (by decide) ?_
    refine lv_istore_n (lv' := [(1, .int 0), (0, .ref (ar 0))]) hx hb dX12_undo_25 rfl hl (by decide) rfl (fun ls hl => ?_)
    refine zz_wf (fun n stk H locs ls => ∃ k4 : Nat, ∃ st5 : Nat → Nat → Int32, ∃ sl6 : Nat → Nat → Int64, n = 71 - k4 ∧ 0 ≤ k4 ∧ k4 < 71 ∧ va_P (dC, dI) vwCl (mw ar cy st5 sl6) H ∧ MG [1, 2, 3, 4, 5, 6, 7, 8, 9, 10, 11, 12, 13, 14, 15, 16, 17, 19, 20, 21, 22, 23] st st5 ∧ MG [1, 2, 3, 4, 5, 6, 7, 8, 9, 10, 11, 12, 13, 14, 15, 16, 17, 19, 20, 21, 22, 23, 18] st3 st5 ∧ LQ [7, 9] sl sl6 ∧ va_S (MA ar s.heap.size) s.heap H locs ∧ lv_has ls 2 [(1, .int (nI k4)), (0, .ref (ar 0))] ∧ stk = []) ?_ (71 - 0) _ _ _ _ ⟨0, st3, sl, rfl, by omega, by omega, hP, hG, MG.rf hG.1, hL, hS, lv_sub hl [0, 1] rfl, rfl⟩
    rintro nn stk H locs ls ⟨k4, st5, sl6, hm9, hv8_0, hv9_1, hP, hG, hG7, hL, hS, hl, rfl⟩ ih10
    refine lv_iload_n hx hb dX12_undo_26 rfl (lv_at hl 0 rfl) ?_
    refine lv_bipush (v := 70) hx hb dX12_undo_27 (by decide) ?_
    refine lv_icmp_ge (tgt := 61) hx hb dX12_undo_29 (by decide) (fun c2 => ?_) (fun c2 => ?_)
    · have c2 : 70 ≤ k4 := (nI_leI (a := 70) (b := k4) (by omega) (by omega)).mp c2
      refine lv_aload_n hx hb dX12_undo_61 rfl (lv_at hl 1 rfl) ?_
      refine va_get (D := (dC, dI)) (ci := 11) (v := .int (st5 0 23)) (C := RX12) (T := TX12) (N := 47) hx hb hts ii_X12_undo hown hK hP 0 rfl rfl 23 (by decide) (hts _ mm_X12_undo_2) (fun _ hh => hh) rfl dX12_undo_62 ?_
      refine zz_top (v := (nI (n2 - 1))) (by show st5 0 23 = _; rw [hG7.2 0 23 (by decide), est3, up2_same]) ?_
      exact W.iret (v := (nI (n2 - 1))) hx hb hr (fun t ht hW => ⟨⟨(nI (n2 - 1)), (st5, sl6), rfl, ⟨hG, hL, trivial⟩, mB.of ht hP⟩, hS.F ht⟩) hS.2.2 dX12_undo_65
    · have c2 : ¬ 70 ≤ k4 := fun hh => c2 ((nI_leI (a := 70) (b := k4) (by omega) (by omega)).mpr hh)
      refine lv_aload_n hx hb dX12_undo_32 rfl (lv_at hl 1 rfl) ?_
      refine va_get (D := (dC, dI)) (ci := 11) (v := .ref (ar 2)) (C := RX12) (T := TX12) (N := 47) hx hb hts ii_X12_undo hown hK hP 0 rfl rfl 14 (by decide) (hts _ mm_X12_undo_3) (fun _ hh => hh) rfl dX12_undo_33 ?_
      refine lv_bipush (v := 61) hx hb dX12_undo_36 (by decide) ?_
      refine lv_iload_n hx hb dX12_undo_38 rfl (lv_at hl 0 rfl) ?_
      refine lv_iadd hx hb dX12_undo_39 ?_
      refine zz_top (v := nI (61 + k4)) (nI_add 61 k4) ?_
      refine lv_aload_n hx hb dX12_undo_40 rfl (lv_at hl 1 rfl) ?_
      refine va_get (D := (dC, dI)) (ci := 11) (v := .ref (ar 5)) (C := RX12) (T := TX12) (N := 47) hx hb hts ii_X12_undo hown hK hP 0 rfl rfl 17 (by decide) (hts _ mm_X12_undo_4) (fun _ hh => hh) rfl dX12_undo_41 ?_
      refine lv_bipush (v := 70) hx hb dX12_undo_44 (by decide) ?_
      refine lv_aload_n hx hb dX12_undo_46 rfl (lv_at hl 1 rfl) ?_
      refine va_get (D := (dC, dI)) (ci := 11) (v := .int (st5 0 23)) (C := RX12) (T := TX12) (N := 47) hx hb hts ii_X12_undo hown hK hP 0 rfl rfl 23 (by decide) (hts _ mm_X12_undo_2) (fun _ hh => hh) rfl dX12_undo_47 ?_
      refine zz_top (v := (nI (n2 - 1))) (by show st5 0 23 = _; rw [hG7.2 0 23 (by decide), est3, up2_same]) ?_
      refine lv_imul hx hb dX12_undo_50 ?_
      refine zz_top (v := nI (70 * (n2 - 1))) (nI_mul 70 (n2 - 1)) ?_
      refine lv_iload_n hx hb dX12_undo_51 rfl (lv_at hl 0 rfl) ?_
      refine lv_iadd hx hb dX12_undo_52 ?_
      refine zz_top (v := nI ((70 * (n2 - 1)) + k4)) (nI_add (70 * (n2 - 1)) k4) ?_
      refine va_iald hx hb hK hP 5 4 rfl rfl (i := (nI ((70 * (n2 - 1)) + k4))) (vp_in_nI (by omega) (by decide)) dX12_undo_53 ?_
      refine zz_top (v := st5 5 ((70 * (n2 - 1)) + k4)) (by rw [nI_clamp (by omega)]) ?_
      have hIst5 := hG.1
      refine va_iast hx hb hK hP (mD hN _ _ _ _) hS 2 1 rfl rfl (i := (nI (61 + k4))) (vp_in_nI (by omega) (by decide)) dX12_undo_54 (fun H locs hP _ hS => ?_)
      rw [nI_clamp (by omega)] at hP
      have hP : va_P (dC, dI) vwCl (mw ar cy (up2 st5 2 (61 + k4) (st5 5 ((70 * (n2 - 1)) + k4))) sl6) H := hP
      obtain ⟨st11, est11⟩ : ∃ y, y = up2 st5 2 (61 + k4) (st5 5 ((70 * (n2 - 1)) + k4)) := ⟨_, rfl⟩
      have hG : MG [1, 2, 3, 4, 5, 6, 7, 8, 9, 10, 11, 12, 13, 14, 15, 16, 17, 19, 20, 21, 22, 23] st st11 := by rw [est11]; exact hG.up (rc hIst5 ((mr5 _ _ (by omega)).symm)) (pn (pcl_2_61_131 (61 + k4) (by omega) (by omega)) (by decide))
      have hG12 : MG [1, 2, 3, 4, 5, 6, 7, 8, 9, 10, 11, 12, 13, 14, 15, 16, 17, 19, 20, 21, 22, 23, 18] st3 st11 := by rw [est11]; exact hG7.up (rc hIst5 ((mr5 _ _ (by omega)).symm)) (pn (pcl_2_61_131 (61 + k4) (by omega) (by omega)) (by decide))
      rw [← est11] at hP
      refine lv_iinc (v := (nI (k4 + 1))) (lv' := [(1, .int (nI (k4 + 1))), (0, .ref (ar 0))]) hx hb dX12_undo_55 hl (k := 0) rfl (nI_add k4 1) (by decide) rfl (fun ls hl => ?_)
      refine lv_goto (tgt := 26) hx hb dX12_undo_58 (by decide) ?_
      exact ih10 (71 - (k4 + 1)) _ _ _ _ (by omega) ⟨(k4 + 1), st11, sl6, rfl, by omega, by omega, hP, hG, hG12, hL, hS, lv_sub hl [0, 1] rfl, rfl⟩
  · have c1 : n2 = 0 := (nI_eq (a := n2) (b := 0) (by omega) (by omega)).mp c1
    refine lv_iconst (v := (-1)) hx hb dX12_undo_12 (by decide) ?_
    exact W.iret (v := (-1)) hx hb hr (fun t ht hW => ⟨⟨(-1), (st1, sl), rfl, ⟨hG, hL, trivial⟩, mB.of ht hP⟩, hS.F ht⟩) hS.2.2 dX12_undo_13
set_option maxHeartbeats 4000000 in
set_option maxRecDepth 100000 in
theorem m_draw (l : Launch) (dC : Nat → ClassId) (dI : Nat → Nat → Nat) (ar : Nat → Nat) (cy : Nat → ClassId) (sz : Nat) (hN : MN ar) (st : Nat → Nat → Int32) (sl : Nat → Nat → Int64) (hI : MI st) : Met l yX12_draw wsX12_draw ({ frames := 0, cells := 0, slots := 0, locals := 0 }) (va_Pc [.ref (ar 0), .int 12] (mPre dC dI ar cy sz st sl)) (va_Qi (fun (r : Int32) (x : MT) => MG [1, 2, 3, 4, 5, 6, 7, 8, 9, 10, 11, 12, 13, 14, 15, 16, 17, 19, 20, 21, 22, 23] st x.1 ∧ LQ [7, 9] sl x.2 ∧ (True)) (mB dC dI ar cy) (MA ar sz)) 0 0 (MA ar sz) := by
  refine Met.ofW (cc := cX12_draw) (maxL := 2) (ret := (some .int)) (by decide) rfl ?_
  intro p e s m args below meth c s₁ B hml hv
  obtain ⟨rfl, hsz, hP, hK⟩ := hv
  have hx := B.exec
  have hb := B.bytes
  have hr := B.returns
  have hts := atoms_spec (ws := wsX12_draw) B.pre
  have hown : s.vm.findClass RX12 = some m.cls := findClass_of_methodNamed B.named
  subst hsz
  have hS : va_S (MA ar s.heap.size) s.heap s.heap [] := va_S.rf
  have hG : MG [1, 2, 3, 4, 5, 6, 7, 8, 9, 10, 11, 12, 13, 14, 15, 16, 17, 19, 20, 21, 22, 23] st st := MG.rf hI
  have hl := lv_entry ([.ref (ar 0), .int 12]) (n := 2) (Nat.le_of_ble_eq_true rfl)
  rw [lg_entry_eq]
  generalize (lg_sl ([.ref (ar 0), .int 12]) ++ List.replicate (2 - (lg_sl ([.ref (ar 0), .int 12])).length) Slot.unset).toArray = ls at hl ⊢
  have hl : lv_has ls 2 [(0, .ref (ar 0)), (1, .int 12)] := hl
  clear hI
  have hL : LQ [7, 9] sl sl := LQ.rf
  refine lv_aload_n hx hb dX12_draw_0 rfl (lv_at hl 0 rfl) ?_
  refine lv_aload_n hx hb dX12_draw_1 rfl (lv_at hl 0 rfl) ?_
  refine va_get (D := (dC, dI)) (ci := 11) (v := .int (st 0 25)) (C := RX12) (T := TX12) (N := 47) hx hb hts ii_X12_draw hown hK hP 0 rfl rfl 25 (by decide) (hts _ mm_X12_draw_1) (fun _ hh => hh) rfl dX12_draw_2 ?_
  refine lv_topi (fun z1 ez1 => ?_)
  clear ez1
  refine lv_ldcw (v := 1103515245) hx hb hown (hts _ mm_X12_draw_2) dX12_draw_5 ?_
  refine lv_imul hx hb dX12_draw_8 ?_
  refine lv_topi (fun z2 ez2 => ?_)
  clear ez2
  refine lv_sipush (v := 12345) hx hb dX12_draw_9 (by decide) ?_
  refine lv_iadd hx hb dX12_draw_12 ?_
  refine lv_topi (fun z3 ez3 => ?_)
  clear ez3
  refine va_put (D := (dC, dI)) (ci := 11) (v := .int z3) (ty := .int) (C := RX12) (T := TX12) (N := 47) hx hb hts ii_X12_draw tyX12 tyX12_ok nmX12 hown hK hP (mD hN _ _ _ _) hS 0 rfl rfl 25 (by decide) (hts _ mm_X12_draw_1) (fun _ hh => hh) rfl (by decide +kernel) rfl rfl (Nat.le_of_ble_eq_true rfl) dX12_draw_13 (fun H locs hP _ hS => ?_)
  have hP : va_P (dC, dI) vwCl (mw ar cy (up2 st 0 25 z3) sl) H := hP
  obtain ⟨st4, hP, hG⟩ : ∃ y, va_P (dC, dI) vwCl (mw ar cy y sl) H ∧ MG [1, 2, 3, 4, 5, 6, 7, 8, 9, 10, 11, 12, 13, 14, 15, 16, 17, 19, 20, 21, 22, 23] st y := ⟨up2 st 0 25 z3, hP, hG.up (rz (by decide : mr 0 25 = 0)) (pn (by decide : pcl 0 25 = 0) (by decide))⟩
  refine lv_aload_n hx hb dX12_draw_16 rfl (lv_at hl 0 rfl) ?_
  refine va_get (D := (dC, dI)) (ci := 11) (v := .int (st4 0 25)) (C := RX12) (T := TX12) (N := 47) hx hb hts ii_X12_draw hown hK hP 0 rfl rfl 25 (by decide) (hts _ mm_X12_draw_1) (fun _ hh => hh) rfl dX12_draw_17 ?_
  refine lv_topi (fun z5 ez5 => ?_)
  clear ez5
  refine lv_bipush (v := 8) hx hb dX12_draw_20 (by decide) ?_
  refine lv_iushr hx hb dX12_draw_22 rfl ?_
  refine lv_topi (fun z6 ez6 => ?_)
  clear ez6
  refine lv_iload_n hx hb dX12_draw_23 rfl (lv_at hl 1 rfl) ?_
  refine lv_irem hx hb dX12_draw_24 (by decide) ?_
  refine lv_topi (fun z7 ez7 => ?_)
  clear ez7
  exact W.iret (v := z7) hx hb hr (fun t ht hW => ⟨⟨z7, (st4, sl), rfl, ⟨hG, hL, trivial⟩, mB.of ht hP⟩, hS.F ht⟩) hS.2.2 dX12_draw_25
set_option maxHeartbeats 4000000 in
set_option maxRecDepth 100000 in
theorem m_firstThere (l : Launch) (dC : Nat → ClassId) (dI : Nat → Nat → Nat) (ar : Nat → Nat) (cy : Nat → ClassId) (sz : Nat) (hN : MN ar) (st : Nat → Nat → Int32) (sl : Nat → Nat → Int64) (va : Int32) (vb : Int32) (hI : MI st) : Met l yX12_firstThere wsX12_firstThere ({ frames := 3, cells := 0, slots := 0, locals := 65 }) (va_Pc [.ref (ar 0), .int va, .int vb] (mPre dC dI ar cy sz st sl)) (va_Qi (fun (r : Int32) (x : MT) => x = (st, sl) ∧ ((r = (-1)) ∨ (∃ n : Nat, r = nI n ∧ n < 8))) (mB dC dI ar cy) (MA ar sz)) 0 0 (MA ar sz) := by
  refine Met.ofW (cc := cX12_firstThere) (maxL := 4) (ret := (some .int)) (by decide) rfl ?_
  intro p e s m args below meth c s₁ B hml hv
  obtain ⟨rfl, hsz, hP, hK⟩ := hv
  have hx := B.exec
  have hb := B.bytes
  have hr := B.returns
  have hts := atoms_spec (ws := wsX12_firstThere) B.pre
  have hown : s.vm.findClass RX12 = some m.cls := findClass_of_methodNamed B.named
  subst hsz
  have hS : va_S (MA ar s.heap.size) s.heap s.heap [] := va_S.rf
  have hG : MG [1, 2, 3, 4, 5, 6, 7, 8, 9, 10, 11, 12, 13, 14, 15, 16, 17, 19, 20, 21, 22, 23] st st := MG.rf hI
  have hl := lv_entry ([.ref (ar 0), .int va, .int vb]) (n := 4) (Nat.le_of_ble_eq_true rfl)
  rw [lg_entry_eq]
  generalize (lg_sl ([.ref (ar 0), .int va, .int vb]) ++ List.replicate (4 - (lg_sl ([.ref (ar 0), .int va, .int vb])).length) Slot.unset).toArray = ls at hl ⊢
  have hl : lv_has ls 4 [(0, .ref (ar 0)), (1, .int va), (2, .int vb)] := hl
  clear hI
  refine lv_iconst (v := 0) hx hb dX12_firstThere_0 (by decide) ?_
  refine lv_istore_n (lv' := [(3, .int 0), (0, .ref (ar 0)), (1, .int va), (2, .int vb)]) hx hb dX12_firstThere_1 rfl hl (by decide) rfl (fun ls hl => ?_)
  refine zz_wf (fun n stk H locs ls => ∃ k1 : Nat, n = 9 - k1 ∧ 0 ≤ k1 ∧ k1 < 9 ∧ va_P (dC, dI) vwCl (mw ar cy st sl) H ∧ va_S (MA ar s.heap.size) s.heap H locs ∧ lv_has ls 4 [(3, .int (nI k1)), (0, .ref (ar 0)), (1, .int va), (2, .int vb)] ∧ stk = []) ?_ (9 - 0) _ _ _ _ ⟨0, rfl, by omega, by omega, hP, hS, lv_sub hl [0, 1, 2, 3] rfl, rfl⟩
  rintro nn stk H locs ls ⟨k1, hm3, hv2_0, hv3_1, hP, hS, hl, rfl⟩ ih4
  refine lv_iload_n hx hb dX12_firstThere_2 rfl (lv_at hl 0 rfl) ?_
  refine lv_aload_n hx hb dX12_firstThere_3 rfl (lv_at hl 1 rfl) ?_
  refine va_get (D := (dC, dI)) (ci := 11) (v := .ref (ar 2)) (C := RX12) (T := TX12) (N := 47) hx hb hts ii_X12_firstThere hown hK hP 0 rfl rfl 14 (by decide) (hts _ mm_X12_firstThere_1) (fun _ hh => hh) rfl dX12_firstThere_4 ?_
  refine lv_iconst (v := 1) hx hb dX12_firstThere_7 (by decide) ?_
  refine va_iald hx hb hK hP 2 1 rfl rfl (i := 1) (zz_in (by decide)) dX12_firstThere_8 ?_
  obtain ⟨n5, hn5, en5⟩ := hG.1.at (r := 2) (k := 1) (by decide : mr 2 1 = 9) (by decide)
  refine zz_top (v := nI n5) (by exact en5) ?_
  clear en5
  refine lv_icmp_ge (tgt := 57) hx hb dX12_firstThere_9 (by decide) (fun c1 => ?_) (fun c1 => ?_)
  · have c1 : n5 ≤ k1 := (nI_leI (a := n5) (b := k1) (by omega) (by omega)).mp c1
    refine lv_iconst (v := (-1)) hx hb dX12_firstThere_57 (by decide) ?_
    exact W.iret (v := (-1)) hx hb hr (fun t ht hW => ⟨⟨(-1), (st, sl), rfl, ⟨rfl, Or.inl (rfl)⟩, mB.of ht hP⟩, hS.F ht⟩) hS.2.2 dX12_firstThere_58
  · have c1 : ¬ n5 ≤ k1 := fun hh => c1 ((nI_leI (a := n5) (b := k1) (by omega) (by omega)).mpr hh)
    refine lv_aload_n hx hb dX12_firstThere_12 rfl (lv_at hl 1 rfl) ?_
    refine lv_iload_n hx hb dX12_firstThere_13 rfl (lv_at hl 0 rfl) ?_
    refine va_calli (va_runV (As := [.int (nI k1)]) (rest := []) ⟨hx, hb, hml, hown, hts⟩ (m_isAway l dC dI ar cy _ hN st sl k1 (by omega) hG.1) (cwV 1 hts gX12_firstThere_X12_isAway rfl rfl rfl (by decide +kernel) ⟨Nat.le_of_ble_eq_true rfl, Nat.le_of_ble_eq_true rfl⟩) ⟨fun a U g mk q => ⟨q.1, mPre.blind q.2⟩, va_recv hK hP (ci := 11) (q0 := 0) rfl rfl, fun U hU hW => ⟨rfl, mPre.of hP hK hU hW⟩⟩ rfl rfl hl.1 rfl (lv_room (Nat.le_of_ble_eq_true rfl)) dX12_firstThere_14 ⟨Nat.le_of_ble_eq_true rfl, Nat.le_of_ble_eq_true rfl⟩) hS (fun q _ h => MA.le hS.1 q h) (MA.le hS.1) (fun r6 x t H locs ht hvm hw hB _ _ hS => ?_)
    have hP := mB.at ht hB
    clear hB ht hvm
    obtain ⟨rfl, hw⟩ := hw
    have hP : va_P (dC, dI) vwCl (mw ar cy st sl) _ := hP
    rcases hw with rfl | rfl
    · refine lv_if_ne (tgt := 51) hx hb dX12_firstThere_17 (by decide) (fun _ => ?_) (fun cc => absurd cc (by decide))
      refine lv_iinc (v := (nI (k1 + 1))) (lv' := [(3, .int (nI (k1 + 1))), (0, .ref (ar 0)), (1, .int va), (2, .int vb)]) hx hb dX12_firstThere_51 hl (k := 0) rfl (nI_add k1 1) (by decide) rfl (fun ls hl => ?_)
      refine lv_goto (tgt := 2) hx hb dX12_firstThere_54 (by decide) ?_
      exact ih4 (9 - (k1 + 1)) _ _ _ _ (by omega) ⟨(k1 + 1), rfl, by omega, by omega, hP, hS, lv_sub hl [0, 1, 2, 3] rfl, rfl⟩
    · refine lv_if_ne (tgt := 51) hx hb dX12_firstThere_17 (by decide) (fun cc => absurd (by decide) cc) (fun _ => ?_)
      refine lv_aload_n hx hb dX12_firstThere_20 rfl (lv_at hl 1 rfl) ?_
      refine va_get (D := (dC, dI)) (ci := 11) (v := .int (st 0 26)) (C := RX12) (T := TX12) (N := 47) hx hb hts ii_X12_firstThere hown hK hP 0 rfl rfl 26 (by decide) (hts _ mm_X12_firstThere_2) (fun _ hh => hh) rfl dX12_firstThere_21 ?_
      refine lv_topi (fun z7 ez7 => ?_)
      clear ez7
      refine lv_iload_n hx hb dX12_firstThere_24 rfl (lv_at hl 0 rfl) ?_
      refine va_calli (va_runS (As := [.int z7, .int (nI k1)]) (rest := []) ⟨hx, hb, hml, hown, hts⟩ (m_has l dC dI ar cy _ hN st sl z7 (nI k1)  hG.1) (va_cwS 2 hts gX12_firstThere_X12_has rfl rfl rfl (by decide +kernel) ⟨Nat.le_of_ble_eq_true rfl, Nat.le_of_ble_eq_true rfl⟩) ⟨fun a U g mk q => ⟨q.1, mPre.blind q.2⟩, fun U hU hW => ⟨rfl, mPre.of hP hK hU hW⟩⟩ rfl rfl hl.1 rfl (lv_room (Nat.le_of_ble_eq_true rfl)) dX12_firstThere_25 ⟨Nat.le_of_ble_eq_true rfl, Nat.le_of_ble_eq_true rfl⟩) hS (fun q _ h => MA.le hS.1 q h) (MA.le hS.1) (fun r8 x t H locs ht hvm hw hB _ _ hS => ?_)
      have hP := mB.at ht hB
      clear hB ht hvm
      obtain ⟨rfl, hw⟩ := hw
      have hP : va_P (dC, dI) vwCl (mw ar cy st sl) _ := hP
      rcases hw with rfl | rfl
      · refine lv_if_ne (tgt := 51) hx hb dX12_firstThere_28 (by decide) (fun _ => ?_) (fun cc => absurd cc (by decide))
        refine lv_iinc (v := (nI (k1 + 1))) (lv' := [(3, .int (nI (k1 + 1))), (0, .ref (ar 0)), (1, .int va), (2, .int vb)]) hx hb dX12_firstThere_51 hl (k := 0) rfl (nI_add k1 1) (by decide) rfl (fun ls hl => ?_)
        refine lv_goto (tgt := 2) hx hb dX12_firstThere_54 (by decide) ?_
        exact ih4 (9 - (k1 + 1)) _ _ _ _ (by omega) ⟨(k1 + 1), rfl, by omega, by omega, hP, hS, lv_sub hl [0, 1, 2, 3] rfl, rfl⟩
      · refine lv_if_ne (tgt := 51) hx hb dX12_firstThere_28 (by decide) (fun cc => absurd (by decide) cc) (fun _ => ?_)
        refine lv_aload_n hx hb dX12_firstThere_31 rfl (lv_at hl 1 rfl) ?_
        refine lv_iload_n hx hb dX12_firstThere_32 rfl (lv_at hl 0 rfl) ?_
        refine va_calli (va_runV (As := [.int (nI k1)]) (rest := []) ⟨hx, hb, hml, hown, hts⟩ (m_dogsOf l dC dI ar cy _ hN st sl (nI k1)  hG.1) (cwV 1 hts gX12_firstThere_X12_dogsOf rfl rfl rfl (by decide +kernel) ⟨Nat.le_of_ble_eq_true rfl, Nat.le_of_ble_eq_true rfl⟩) ⟨fun a U g mk q => ⟨q.1, mPre.blind q.2⟩, va_recv hK hP (ci := 11) (q0 := 0) rfl rfl, fun U hU hW => ⟨rfl, mPre.of hP hK hU hW⟩⟩ rfl rfl hl.1 rfl (lv_room (Nat.le_of_ble_eq_true rfl)) dX12_firstThere_33 ⟨Nat.le_of_ble_eq_true rfl, Nat.le_of_ble_eq_true rfl⟩) hS (fun q _ h => MA.le hS.1 q h) (MA.le hS.1) (fun r9 x t H locs ht hvm hw hB _ _ hS => ?_)
        have hP := mB.at ht hB
        clear hB ht hvm
        obtain ⟨rfl, hw⟩ := hw
        have hP : va_P (dC, dI) vwCl (mw ar cy st sl) _ := hP
        clear hw
        refine lv_if_ne (tgt := 51) hx hb dX12_firstThere_36 (by decide) (fun c6 => ?_) (fun c6 => ?_)
        · refine lv_iinc (v := (nI (k1 + 1))) (lv' := [(3, .int (nI (k1 + 1))), (0, .ref (ar 0)), (1, .int va), (2, .int vb)]) hx hb dX12_firstThere_51 hl (k := 0) rfl (nI_add k1 1) (by decide) rfl (fun ls hl => ?_)
          refine lv_goto (tgt := 2) hx hb dX12_firstThere_54 (by decide) ?_
          exact ih4 (9 - (k1 + 1)) _ _ _ _ (by omega) ⟨(k1 + 1), rfl, by omega, by omega, hP, hS, lv_sub hl [0, 1, 2, 3] rfl, rfl⟩
        · refine lv_aload_n hx hb dX12_firstThere_39 rfl (lv_at hl 1 rfl) ?_
          refine lv_iload_n hx hb dX12_firstThere_40 rfl (lv_at hl 0 rfl) ?_
          refine lv_iload_n hx hb dX12_firstThere_41 rfl (lv_at hl 2 rfl) ?_
          refine lv_iload_n hx hb dX12_firstThere_42 rfl (lv_at hl 3 rfl) ?_
          refine va_calli (va_runV (As := [.int (nI k1), .int va, .int vb]) (rest := []) ⟨hx, hb, hml, hown, hts⟩ (m_comesIn l dC dI ar cy _ hN st sl k1 va vb (by omega) hG.1) (cwV 3 hts gX12_firstThere_X12_comesIn rfl rfl rfl (by decide +kernel) ⟨Nat.le_of_ble_eq_true rfl, Nat.le_of_ble_eq_true rfl⟩) ⟨fun a U g mk q => ⟨q.1, mPre.blind q.2⟩, va_recv hK hP (ci := 11) (q0 := 0) rfl rfl, fun U hU hW => ⟨rfl, mPre.of hP hK hU hW⟩⟩ rfl rfl hl.1 rfl (lv_room (Nat.le_of_ble_eq_true rfl)) dX12_firstThere_43 ⟨Nat.le_of_ble_eq_true rfl, Nat.le_of_ble_eq_true rfl⟩) hS (fun q _ h => MA.le hS.1 q h) (MA.le hS.1) (fun r10 x t H locs ht hvm hw hB _ _ hS => ?_)
          have hP := mB.at ht hB
          clear hB ht hvm
          obtain ⟨rfl, hw⟩ := hw
          have hP : va_P (dC, dI) vwCl (mw ar cy st sl) _ := hP
          rcases hw with rfl | rfl
          · refine lv_if_eq (tgt := 51) hx hb dX12_firstThere_46 (by decide) (fun cc => absurd cc (by decide)) (fun _ => ?_)
            refine lv_iload_n hx hb dX12_firstThere_49 rfl (lv_at hl 0 rfl) ?_
            exact W.iret (v := (nI k1)) hx hb hr (fun t ht hW => ⟨⟨(nI k1), (st, sl), rfl, ⟨rfl, Or.inr (⟨k1, rfl, by omega⟩)⟩, mB.of ht hP⟩, hS.F ht⟩) hS.2.2 dX12_firstThere_50
          · refine lv_if_eq (tgt := 51) hx hb dX12_firstThere_46 (by decide) (fun _ => ?_) (fun cc => absurd (by decide) cc)
            refine lv_iinc (v := (nI (k1 + 1))) (lv' := [(3, .int (nI (k1 + 1))), (0, .ref (ar 0)), (1, .int va), (2, .int vb)]) hx hb dX12_firstThere_51 hl (k := 0) rfl (nI_add k1 1) (by decide) rfl (fun ls hl => ?_)
            refine lv_goto (tgt := 2) hx hb dX12_firstThere_54 (by decide) ?_
            exact ih4 (9 - (k1 + 1)) _ _ _ _ (by omega) ⟨(k1 + 1), rfl, by omega, by omega, hP, hS, lv_sub hl [0, 1, 2, 3] rfl, rfl⟩
set_option maxHeartbeats 4000000 in
set_option maxRecDepth 100000 in
theorem m_runs (l : Launch) (dC : Nat → ClassId) (dI : Nat → Nat → Nat) (ar : Nat → Nat) (cy : Nat → ClassId) (sz : Nat) (hN : MN ar) (st : Nat → Nat → Int32) (sl : Nat → Nat → Int64) (va : Nat) (vb : Int32) (hva : va < 6) (hI : MI st) : Met l yX12_runs wsX12_runs ({ frames := 4, cells := 0, slots := 0, locals := 88 }) (va_Pc [.ref (ar 0), .int (nI va), .int vb] (mPre dC dI ar cy sz st sl)) (va_Qv (fun (x : MT) => MG [1, 2, 3, 4, 5, 6, 7, 8, 9, 10, 11, 12, 13, 14, 15, 16, 17, 19, 20, 21, 22, 23] st x.1 ∧ LQ [7, 9] sl x.2 ∧ (True)) (mB dC dI ar cy) (MA ar sz)) 0 0 (MA ar sz) := by
  refine Met.ofW (cc := cX12_runs) (maxL := 6) (ret := none) (by decide) rfl ?_
  intro p e s m args below meth c s₁ B hml hv
  obtain ⟨rfl, hsz, hP, hK⟩ := hv
  have hx := B.exec
  have hb := B.bytes
  have hr := B.returns
  have hts := atoms_spec (ws := wsX12_runs) B.pre
  have hown : s.vm.findClass RX12 = some m.cls := findClass_of_methodNamed B.named
  subst hsz
  have hS : va_S (MA ar s.heap.size) s.heap s.heap [] := va_S.rf
  have hG : MG [1, 2, 3, 4, 5, 6, 7, 8, 9, 10, 11, 12, 13, 14, 15, 16, 17, 19, 20, 21, 22, 23] st st := MG.rf hI
  have hl := lv_entry ([.ref (ar 0), .int (nI va), .int vb]) (n := 6) (Nat.le_of_ble_eq_true rfl)
  rw [lg_entry_eq]
  generalize (lg_sl ([.ref (ar 0), .int (nI va), .int vb]) ++ List.replicate (6 - (lg_sl ([.ref (ar 0), .int (nI va), .int vb])).length) Slot.unset).toArray = ls at hl ⊢
  have hl : lv_has ls 6 [(0, .ref (ar 0)), (1, .int (nI va)), (2, .int vb)] := hl
  clear hI
  have hL : LQ [7, 9] sl sl := LQ.rf
  refine lv_aload_n hx hb dX12_runs_0 rfl (lv_at hl 0 rfl) ?_
  refine va_get (D := (dC, dI)) (ci := 11) (v := .ref (ar 2)) (C := RX12) (T := TX12) (N := 47) hx hb hts ii_X12_runs hown hK hP 0 rfl rfl 14 (by decide) (hts _ mm_X12_runs_1) (fun _ hh => hh) rfl dX12_runs_1 ?_
  refine lv_bipush (v := 42) hx hb dX12_runs_4 (by decide) ?_
  refine lv_iload_n hx hb dX12_runs_6 rfl (lv_at hl 1 rfl) ?_
  refine lv_iadd hx hb dX12_runs_7 ?_
  refine zz_top (v := nI (42 + va)) (nI_add 42 va) ?_
  refine va_iald hx hb hK hP 2 1 rfl rfl (i := (nI (42 + va))) (vp_in_nI (by omega) (by decide)) dX12_runs_8 ?_
  obtain ⟨n1, hn1, en1⟩ := hG.1.at (r := 2) (k := (42 + va)) (mr_2_42_48 (42 + va) (by omega) (by omega)) (by decide)
  refine zz_top (v := nI n1) (by rw [nI_clamp (by omega)]; exact en1) ?_
  clear en1
  refine lv_istore_n (lv' := [(3, .int (nI n1)), (0, .ref (ar 0)), (1, .int (nI va)), (2, .int vb)]) hx hb dX12_runs_9 rfl hl (by decide) rfl (fun ls hl => ?_)
  refine lv_aload_n hx hb dX12_runs_10 rfl (lv_at hl 1 rfl) ?_
  refine va_get (D := (dC, dI)) (ci := 11) (v := .ref (ar 2)) (C := RX12) (T := TX12) (N := 47) hx hb hts ii_X12_runs hown hK hP 0 rfl rfl 14 (by decide) (hts _ mm_X12_runs_1) (fun _ hh => hh) rfl dX12_runs_11 ?_
  refine lv_bipush (v := 71) hx hb dX12_runs_14 (by decide) ?_
  refine lv_iload_n hx hb dX12_runs_16 rfl (lv_at hl 0 rfl) ?_
  refine lv_iadd hx hb dX12_runs_17 ?_
  refine zz_top (v := nI (71 + n1)) (nI_add 71 n1) ?_
  refine va_iald hx hb hK hP 2 1 rfl rfl (i := (nI (71 + n1))) (vp_in_nI (by omega) (by decide)) dX12_runs_18 ?_
  obtain ⟨n2, hn2, en2⟩ := hG.1.at (r := 2) (k := (71 + n1)) (mr_2_71_79 (71 + n1) (by omega) (by omega)) (by decide)
  refine zz_top (v := nI n2) (by rw [nI_clamp (by omega)]; exact en2) ?_
  clear en2
  refine lv_istore (lv' := [(4, .int (nI n2)), (3, .int (nI n1)), (0, .ref (ar 0)), (1, .int (nI va)), (2, .int vb)]) hx hb dX12_runs_19 hl (by decide) rfl (fun ls hl => ?_)
  refine lv_aload_n hx hb dX12_runs_21 rfl (lv_at hl 2 rfl) ?_
  refine va_get (D := (dC, dI)) (ci := 11) (v := .ref (ar 2)) (C := RX12) (T := TX12) (N := 47) hx hb hts ii_X12_runs hown hK hP 0 rfl rfl 14 (by decide) (hts _ mm_X12_runs_1) (fun _ hh => hh) rfl dX12_runs_22 ?_
  refine lv_bipush (v := 64) hx hb dX12_runs_25 (by decide) ?_
  refine va_iald hx hb hK hP 2 1 rfl rfl (i := 64) (zz_in (by decide)) dX12_runs_27 ?_
  refine lv_topi (fun z3 ez3 => ?_)
  clear ez3
  refine lv_iload_n hx hb dX12_runs_28 rfl (lv_at hl 3 rfl) ?_
  refine va_calli (va_runS (As := [.int z3, .int (nI va)]) (rest := []) ⟨hx, hb, hml, hown, hts⟩ (m_has l dC dI ar cy _ hN st sl z3 (nI va)  hG.1) (va_cwS 2 hts gX12_runs_X12_has rfl rfl rfl (by decide +kernel) ⟨Nat.le_of_ble_eq_true rfl, Nat.le_of_ble_eq_true rfl⟩) ⟨fun a U g mk q => ⟨q.1, mPre.blind q.2⟩, fun U hU hW => ⟨rfl, mPre.of hP hK hU hW⟩⟩ rfl rfl hl.1 rfl (lv_room (Nat.le_of_ble_eq_true rfl)) dX12_runs_29 ⟨Nat.le_of_ble_eq_true rfl, Nat.le_of_ble_eq_true rfl⟩) hS (fun q _ h => MA.le hS.1 q h) (MA.le hS.1) (fun r4 x t H locs ht hvm hw hB _ _ hS => ?_)
  have hP := mB.at ht hB
  clear hB ht hvm
  obtain ⟨rfl, hw⟩ := hw
  have hP : va_P (dC, dI) vwCl (mw ar cy st sl) _ := hP
  rcases hw with rfl | rfl
  · refine lv_if_ne (tgt := 54) hx hb dX12_runs_32 (by decide) (fun _ => ?_) (fun cc => absurd cc (by decide))
    exact W.vret hx hb hr (fun t ht hW => ⟨⟨(st, sl), rfl, ⟨hG, hL, trivial⟩, mB.of ht hP⟩, hS.F ht⟩) hS.2.2 dX12_runs_54
  · refine lv_if_ne (tgt := 54) hx hb dX12_runs_32 (by decide) (fun cc => absurd (by decide) cc) (fun _ => ?_)
    refine lv_aload_n hx hb dX12_runs_35 rfl (lv_at hl 2 rfl) ?_
    refine lv_iload_n hx hb dX12_runs_36 rfl (lv_at hl 1 rfl) ?_
    refine va_calli (va_runV (As := [.int (nI n1)]) (rest := []) ⟨hx, hb, hml, hown, hts⟩ (m_isAway l dC dI ar cy _ hN st sl n1 (by omega) hG.1) (cwV 1 hts gX12_runs_X12_isAway rfl rfl rfl (by decide +kernel) ⟨Nat.le_of_ble_eq_true rfl, Nat.le_of_ble_eq_true rfl⟩) ⟨fun a U g mk q => ⟨q.1, mPre.blind q.2⟩, va_recv hK hP (ci := 11) (q0 := 0) rfl rfl, fun U hU hW => ⟨rfl, mPre.of hP hK hU hW⟩⟩ rfl rfl hl.1 rfl (lv_room (Nat.le_of_ble_eq_true rfl)) dX12_runs_37 ⟨Nat.le_of_ble_eq_true rfl, Nat.le_of_ble_eq_true rfl⟩) hS (fun q _ h => MA.le hS.1 q h) (MA.le hS.1) (fun r5 x t H locs ht hvm hw hB _ _ hS => ?_)
    have hP := mB.at ht hB
    clear hB ht hvm
    obtain ⟨rfl, hw⟩ := hw
    have hP : va_P (dC, dI) vwCl (mw ar cy st sl) _ := hP
    rcases hw with rfl | rfl
    · refine lv_if_ne (tgt := 54) hx hb dX12_runs_40 (by decide) (fun _ => ?_) (fun cc => absurd cc (by decide))
      exact W.vret hx hb hr (fun t ht hW => ⟨⟨(st, sl), rfl, ⟨hG, hL, trivial⟩, mB.of ht hP⟩, hS.F ht⟩) hS.2.2 dX12_runs_54
    · refine lv_if_ne (tgt := 54) hx hb dX12_runs_40 (by decide) (fun cc => absurd (by decide) cc) (fun _ => ?_)
      refine lv_aload_n hx hb dX12_runs_43 rfl (lv_at hl 2 rfl) ?_
      refine lv_iload_n hx hb dX12_runs_44 rfl (lv_at hl 1 rfl) ?_
      refine lv_iload hx hb dX12_runs_45 (lv_at hl 0 rfl) ?_
      refine lv_iload_n hx hb dX12_runs_47 rfl (lv_at hl 4 rfl) ?_
      refine va_calli (va_runV (As := [.int (nI n1), .int (nI n2), .int vb]) (rest := []) ⟨hx, hb, hml, hown, hts⟩ (m_comesIn l dC dI ar cy _ hN st sl n1 (nI n2) vb (by omega) hG.1) (cwV 3 hts gX12_runs_X12_comesIn rfl rfl rfl (by decide +kernel) ⟨Nat.le_of_ble_eq_true rfl, Nat.le_of_ble_eq_true rfl⟩) ⟨fun a U g mk q => ⟨q.1, mPre.blind q.2⟩, va_recv hK hP (ci := 11) (q0 := 0) rfl rfl, fun U hU hW => ⟨rfl, mPre.of hP hK hU hW⟩⟩ rfl rfl hl.1 rfl (lv_room (Nat.le_of_ble_eq_true rfl)) dX12_runs_48 ⟨Nat.le_of_ble_eq_true rfl, Nat.le_of_ble_eq_true rfl⟩) hS (fun q _ h => MA.le hS.1 q h) (MA.le hS.1) (fun r6 x t H locs ht hvm hw hB _ _ hS => ?_)
      have hP := mB.at ht hB
      clear hB ht hvm
      obtain ⟨rfl, hw⟩ := hw
      have hP : va_P (dC, dI) vwCl (mw ar cy st sl) _ := hP
      rcases hw with rfl | rfl
      · refine lv_if_ne (tgt := 55) hx hb dX12_runs_51 (by decide) (fun _ => ?_) (fun cc => absurd cc (by decide))
        refine lv_aload_n hx hb dX12_runs_55 rfl (lv_at hl 2 rfl) ?_
        refine va_get (D := (dC, dI)) (ci := 11) (v := .ref (ar 2)) (C := RX12) (T := TX12) (N := 47) hx hb hts ii_X12_runs hown hK hP 0 rfl rfl 14 (by decide) (hts _ mm_X12_runs_1) (fun _ hh => hh) rfl dX12_runs_56 ?_
        refine lv_bipush (v := 66) hx hb dX12_runs_59 (by decide) ?_
        refine lv_iload hx hb dX12_runs_61 (lv_at hl 0 rfl) ?_
        refine lv_iadd hx hb dX12_runs_63 ?_
        refine zz_top (v := nI (66 + n2)) (nI_add 66 n2) ?_
        refine va_iald hx hb hK hP 2 1 rfl rfl (i := (nI (66 + n2))) (vp_in_nI (by omega) (by decide)) dX12_runs_64 ?_
        obtain ⟨n7, hn7, en7⟩ := hG.1.at (r := 2) (k := (66 + n2)) (mr_2_66_71 (66 + n2) (by omega) (by omega)) (by decide)
        refine zz_top (v := nI n7) (by rw [nI_clamp (by omega)]; exact en7) ?_
        clear en7
        refine lv_iload_n hx hb dX12_runs_65 rfl (lv_at hl 4 rfl) ?_
        refine va_calli (va_runS (As := [.int (nI n7), .int vb]) (rest := []) ⟨hx, hb, hml, hown, hts⟩ (m_has l dC dI ar cy _ hN st sl (nI n7) vb  hG.1) (va_cwS 2 hts gX12_runs_X12_has rfl rfl rfl (by decide +kernel) ⟨Nat.le_of_ble_eq_true rfl, Nat.le_of_ble_eq_true rfl⟩) ⟨fun a U g mk q => ⟨q.1, mPre.blind q.2⟩, fun U hU hW => ⟨rfl, mPre.of hP hK hU hW⟩⟩ rfl rfl hl.1 rfl (lv_room (Nat.le_of_ble_eq_true rfl)) dX12_runs_66 ⟨Nat.le_of_ble_eq_true rfl, Nat.le_of_ble_eq_true rfl⟩) hS (fun q _ h => MA.le hS.1 q h) (MA.le hS.1) (fun r8 x t H locs ht hvm hw hB _ _ hS => ?_)
        have hP := mB.at ht hB
        clear hB ht hvm
        obtain ⟨rfl, hw⟩ := hw
        have hP : va_P (dC, dI) vwCl (mw ar cy st sl) _ := hP
        rcases hw with rfl | rfl
        · refine lv_if_ne (tgt := 89) hx hb dX12_runs_69 (by decide) (fun _ => ?_) (fun cc => absurd cc (by decide))
          refine lv_aload_n hx hb dX12_runs_89 rfl (lv_at hl 2 rfl) ?_
          refine lv_iload hx hb dX12_runs_90 (lv_at hl 0 rfl) ?_
          refine va_calli (va_runV (As := [.int (nI n2)]) (rest := []) ⟨hx, hb, hml, hown, hts⟩ (m_isFenced l dC dI ar cy _ hN st sl (nI n2)  hG.1) (cwV 1 hts gX12_runs_X12_isFenced rfl rfl rfl (by decide +kernel) ⟨Nat.le_of_ble_eq_true rfl, Nat.le_of_ble_eq_true rfl⟩) ⟨fun a U g mk q => ⟨q.1, mPre.blind q.2⟩, va_recv hK hP (ci := 11) (q0 := 0) rfl rfl, fun U hU hW => ⟨rfl, mPre.of hP hK hU hW⟩⟩ rfl rfl hl.1 rfl (lv_room (Nat.le_of_ble_eq_true rfl)) dX12_runs_92 ⟨Nat.le_of_ble_eq_true rfl, Nat.le_of_ble_eq_true rfl⟩) hS (fun q _ h => MA.le hS.1 q h) (MA.le hS.1) (fun r9 x t H locs ht hvm hw hB _ _ hS => ?_)
          have hP := mB.at ht hB
          clear hB ht hvm
          obtain ⟨rfl, hw⟩ := hw
          have hP : va_P (dC, dI) vwCl (mw ar cy st sl) _ := hP
          rcases hw with rfl | rfl
          · refine lv_if_eq (tgt := 99) hx hb dX12_runs_95 (by decide) (fun cc => absurd cc (by decide)) (fun _ => ?_)
            exact W.vret hx hb hr (fun t ht hW => ⟨⟨(st, sl), rfl, ⟨hG, hL, trivial⟩, mB.of ht hP⟩, hS.F ht⟩) hS.2.2 dX12_runs_98
          · refine lv_if_eq (tgt := 99) hx hb dX12_runs_95 (by decide) (fun _ => ?_) (fun cc => absurd (by decide) cc)
            refine lv_aload_n hx hb dX12_runs_99 rfl (lv_at hl 2 rfl) ?_
            refine lv_iload hx hb dX12_runs_100 (lv_at hl 0 rfl) ?_
            refine lv_iload_n hx hb dX12_runs_102 rfl (lv_at hl 4 rfl) ?_
            refine va_calli (va_runV (As := [.int (nI n2), .int vb]) (rest := []) ⟨hx, hb, hml, hown, hts⟩ (m_firstThere l dC dI ar cy _ hN st sl (nI n2) vb  hG.1) (cwV 2 hts gX12_runs_X12_firstThere rfl rfl rfl (by decide +kernel) ⟨Nat.le_of_ble_eq_true rfl, Nat.le_of_ble_eq_true rfl⟩) ⟨fun a U g mk q => ⟨q.1, mPre.blind q.2⟩, va_recv hK hP (ci := 11) (q0 := 0) rfl rfl, fun U hU hW => ⟨rfl, mPre.of hP hK hU hW⟩⟩ rfl rfl hl.1 rfl (lv_room (Nat.le_of_ble_eq_true rfl)) dX12_runs_103 ⟨Nat.le_of_ble_eq_true rfl, Nat.le_of_ble_eq_true rfl⟩) hS (fun q _ h => MA.le hS.1 q h) (MA.le hS.1) (fun r10 x t H locs ht hvm hw hB _ _ hS => ?_)
            have hP := mB.at ht hB
            clear hB ht hvm
            obtain ⟨rfl, hw⟩ := hw
            have hP : va_P (dC, dI) vwCl (mw ar cy st sl) _ := hP
            rcases hw with rfl | ⟨n11, rfl, hf12⟩
            · refine lv_istore (lv' := [(5, .int (-1)), (4, .int (nI n2)), (3, .int (nI n1)), (0, .ref (ar 0)), (1, .int (nI va)), (2, .int vb)]) hx hb dX12_runs_106 hl (by decide) rfl (fun ls hl => ?_)
              refine lv_iload hx hb dX12_runs_108 (lv_at hl 0 rfl) ?_
              refine lv_iconst (v := (-1)) hx hb dX12_runs_110 (by decide) ?_
              refine lv_icmp_eq (tgt := 132) hx hb dX12_runs_111 (by decide) (fun _ => ?_) (fun cc => absurd (by decide) cc)
              exact W.vret hx hb hr (fun t ht hW => ⟨⟨(st, sl), rfl, ⟨hG, hL, trivial⟩, mB.of ht hP⟩, hS.F ht⟩) hS.2.2 dX12_runs_132
            · refine lv_istore (lv' := [(5, .int (nI n11)), (4, .int (nI n2)), (3, .int (nI n1)), (0, .ref (ar 0)), (1, .int (nI va)), (2, .int vb)]) hx hb dX12_runs_106 hl (by decide) rfl (fun ls hl => ?_)
              refine lv_iload hx hb dX12_runs_108 (lv_at hl 0 rfl) ?_
              refine lv_iconst (v := (-1)) hx hb dX12_runs_110 (by decide) ?_
              refine lv_icmp_eq (tgt := 132) hx hb dX12_runs_111 (by decide) (fun cc => absurd cc (nI_nem (by omega))) (fun _ => ?_)
              refine lv_aload_n hx hb dX12_runs_114 rfl (lv_at hl 3 rfl) ?_
              refine lv_bipush (v := 12) hx hb dX12_runs_115 (by decide) ?_
              refine va_calli (va_runV (As := [.int 12]) (rest := []) ⟨hx, hb, hml, hown, hts⟩ (m_draw l dC dI ar cy _ hN st sl  hG.1) (cwV 1 hts gX12_runs_X12_draw rfl rfl rfl (by decide +kernel) ⟨Nat.le_of_ble_eq_true rfl, Nat.le_of_ble_eq_true rfl⟩) ⟨fun a U g mk q => ⟨q.1, mPre.blind q.2⟩, va_recv hK hP (ci := 11) (q0 := 0) rfl rfl, fun U hU hW => ⟨rfl, mPre.of hP hK hU hW⟩⟩ rfl rfl hl.1 rfl (lv_room (Nat.le_of_ble_eq_true rfl)) dX12_runs_117 ⟨Nat.le_of_ble_eq_true rfl, Nat.le_of_ble_eq_true rfl⟩) hS (fun q _ h => MA.le hS.1 q h) (MA.le hS.1) (fun r13 x t H locs ht hvm hw hB _ _ hS => ?_)
              have hP := mB.at ht hB
              clear hB ht hvm
              obtain ⟨st14, sl15⟩ := x
              obtain ⟨hG2, hL2, hw⟩ := hw
              have hL : LQ [7, 9] sl sl15 := hL.tr hL2 (by decide)
              clear hL2
              have hP : va_P (dC, dI) vwCl (mw ar cy st14 sl15) _ := hP
              have hG : MG [1, 2, 3, 4, 5, 6, 7, 8, 9, 10, 11, 12, 13, 14, 15, 16, 17, 19, 20, 21, 22, 23] st st14 := hG.tr hG2 (by decide)
              clear hG2
              clear hw
              refine lv_aload_n hx hb dX12_runs_120 rfl (lv_at hl 3 rfl) ?_
              refine va_get (D := (dC, dI)) (ci := 11) (v := .ref (ar 2)) (C := RX12) (T := TX12) (N := 47) hx hb hts ii_X12_runs hown hK hP 0 rfl rfl 14 (by decide) (hts _ mm_X12_runs_1) (fun _ hh => hh) rfl dX12_runs_121 ?_
              refine lv_bipush (v := 48) hx hb dX12_runs_124 (by decide) ?_
              refine lv_iload_n hx hb dX12_runs_126 rfl (lv_at hl 4 rfl) ?_
              refine lv_iadd hx hb dX12_runs_127 ?_
              refine zz_top (v := nI (48 + va)) (nI_add 48 va) ?_
              refine va_iald hx hb hK hP 2 1 rfl rfl (i := (nI (48 + va))) (vp_in_nI (by omega) (by decide)) dX12_runs_128 ?_
              obtain ⟨n16, hn16, en16⟩ := hG.1.at (r := 2) (k := (48 + va)) (mr_2_48_54 (48 + va) (by omega) (by omega)) (by decide)
              refine zz_top (v := nI n16) (by rw [nI_clamp (by omega)]; exact en16) ?_
              clear en16
              refine lv_icmp_ge (tgt := 133) hx hb dX12_runs_129 (by decide) (fun c11 => ?_) (fun c11 => ?_)
              · refine lv_aload_n hx hb dX12_runs_133 rfl (lv_at hl 3 rfl) ?_
                refine lv_dup hx hb dX12_runs_134 rfl ?_
                refine va_get (D := (dC, dI)) (ci := 11) (v := .int (st14 0 26)) (C := RX12) (T := TX12) (N := 47) hx hb hts ii_X12_runs hown hK hP 0 rfl rfl 26 (by decide) (hts _ mm_X12_runs_2) (fun _ hh => hh) rfl dX12_runs_135 ?_
                refine lv_topi (fun z17 ez17 => ?_)
                clear ez17
                refine lv_iconst (v := 1) hx hb dX12_runs_138 (by decide) ?_
                refine lv_iload hx hb dX12_runs_139 (lv_at hl 0 rfl) ?_
                refine lv_ishl hx hb dX12_runs_141 ?_
                refine lv_topi (fun z18 ez18 => ?_)
                clear ez18
                refine lv_ior hx hb dX12_runs_142 ?_
                refine lv_topi (fun z19 ez19 => ?_)
                clear ez19
                refine va_put (D := (dC, dI)) (ci := 11) (v := .int z19) (ty := .int) (C := RX12) (T := TX12) (N := 47) hx hb hts ii_X12_runs tyX12 tyX12_ok nmX12 hown hK hP (mD hN _ _ _ _) hS 0 rfl rfl 26 (by decide) (hts _ mm_X12_runs_2) (fun _ hh => hh) rfl (by decide +kernel) rfl rfl (Nat.le_of_ble_eq_true rfl) dX12_runs_143 (fun H locs hP _ hS => ?_)
                have hP : va_P (dC, dI) vwCl (mw ar cy (up2 st14 0 26 z19) sl15) H := hP
                obtain ⟨st20, hP, hG⟩ : ∃ y, va_P (dC, dI) vwCl (mw ar cy y sl15) H ∧ MG [1, 2, 3, 4, 5, 6, 7, 8, 9, 10, 11, 12, 13, 14, 15, 16, 17, 19, 20, 21, 22, 23] st y := ⟨up2 st14 0 26 z19, hP, hG.up (rz (by decide : mr 0 26 = 0)) (pn (by decide : pcl 0 26 = 0) (by decide))⟩
                refine lv_aload_n hx hb dX12_runs_146 rfl (lv_at hl 3 rfl) ?_
                refine va_get (D := (dC, dI)) (ci := 11) (v := .ref (ar 2)) (C := RX12) (T := TX12) (N := 47) hx hb hts ii_X12_runs hown hK hP 0 rfl rfl 14 (by decide) (hts _ mm_X12_runs_1) (fun _ hh => hh) rfl dX12_runs_147 ?_
                refine lv_bipush (v := 103) hx hb dX12_runs_150 (by decide) ?_
                refine lv_iload hx hb dX12_runs_152 (lv_at hl 0 rfl) ?_
                refine lv_iadd hx hb dX12_runs_154 ?_
                refine zz_top (v := nI (103 + n11)) (nI_add 103 n11) ?_
                refine lv_dup2_11 hx hb dX12_runs_155 rfl rfl ?_
                refine va_iald hx hb hK hP 2 1 rfl rfl (i := (nI (103 + n11))) (vp_in_nI (by omega) (by decide)) dX12_runs_156 ?_
                refine lv_topi (fun z21 ez21 => ?_)
                clear ez21
                refine lv_iconst (v := 1) hx hb dX12_runs_157 (by decide) ?_
                refine lv_iadd hx hb dX12_runs_158 ?_
                refine lv_topi (fun z22 ez22 => ?_)
                clear ez22
                refine va_iast hx hb hK hP (mD hN _ _ _ _) hS 2 1 rfl rfl (i := (nI (103 + n11))) (vp_in_nI (by omega) (by decide)) dX12_runs_159 (fun H locs hP _ hS => ?_)
                rw [nI_clamp (by omega)] at hP
                have hP : va_P (dC, dI) vwCl (mw ar cy (up2 st20 2 (103 + n11) z22) sl15) H := hP
                obtain ⟨st23, hP, hG⟩ : ∃ y, va_P (dC, dI) vwCl (mw ar cy y sl15) H ∧ MG [1, 2, 3, 4, 5, 6, 7, 8, 9, 10, 11, 12, 13, 14, 15, 16, 17, 19, 20, 21, 22, 23] st y := ⟨up2 st20 2 (103 + n11) z22, hP, hG.up (rz (mr_2_103_111 (103 + n11) (by omega) (by omega))) (pn (pcl_2_103_111 (103 + n11) (by omega) (by omega)) (by decide))⟩
                refine lv_aload_n hx hb dX12_runs_160 rfl (lv_at hl 3 rfl) ?_
                refine va_get (D := (dC, dI)) (ci := 11) (v := .ref (ar 2)) (C := RX12) (T := TX12) (N := 47) hx hb hts ii_X12_runs hown hK hP 0 rfl rfl 14 (by decide) (hts _ mm_X12_runs_1) (fun _ hh => hh) rfl dX12_runs_161 ?_
                refine lv_bipush (v := 63) hx hb dX12_runs_164 (by decide) ?_
                refine lv_dup2_11 hx hb dX12_runs_166 rfl rfl ?_
                refine va_iald hx hb hK hP 2 1 rfl rfl (i := 63) (zz_in (by decide)) dX12_runs_167 ?_
                refine lv_topi (fun z24 ez24 => ?_)
                clear ez24
                refine lv_iconst (v := 1) hx hb dX12_runs_168 (by decide) ?_
                refine lv_iadd hx hb dX12_runs_169 ?_
                refine lv_topi (fun z25 ez25 => ?_)
                clear ez25
                refine va_iast hx hb hK hP (mD hN _ _ _ _) hS 2 1 rfl rfl (i := 63) (zz_in (by decide)) dX12_runs_170 (fun H locs hP _ hS => ?_)
                have hP : va_P (dC, dI) vwCl (mw ar cy (up2 st23 2 63 z25) sl15) H := hP
                obtain ⟨st26, hP, hG⟩ : ∃ y, va_P (dC, dI) vwCl (mw ar cy y sl15) H ∧ MG [1, 2, 3, 4, 5, 6, 7, 8, 9, 10, 11, 12, 13, 14, 15, 16, 17, 19, 20, 21, 22, 23] st y := ⟨up2 st23 2 63 z25, hP, hG.up (rz (by decide : mr 2 63 = 0)) (pn (by decide : pcl 2 63 = 0) (by decide))⟩
                refine lv_aload_n hx hb dX12_runs_171 rfl (lv_at hl 3 rfl) ?_
                refine va_get (D := (dC, dI)) (ci := 11) (v := .ref (ar 2)) (C := RX12) (T := TX12) (N := 47) hx hb hts ii_X12_runs hown hK hP 0 rfl rfl 14 (by decide) (hts _ mm_X12_runs_1) (fun _ hh => hh) rfl dX12_runs_172 ?_
                refine lv_bipush (v := 119) hx hb dX12_runs_175 (by decide) ?_
                refine lv_iload_n hx hb dX12_runs_177 rfl (lv_at hl 4 rfl) ?_
                refine lv_iadd hx hb dX12_runs_178 ?_
                refine zz_top (v := nI (119 + va)) (nI_add 119 va) ?_
                refine lv_dup2_11 hx hb dX12_runs_179 rfl rfl ?_
                refine va_iald hx hb hK hP 2 1 rfl rfl (i := (nI (119 + va))) (vp_in_nI (by omega) (by decide)) dX12_runs_180 ?_
                refine lv_topi (fun z27 ez27 => ?_)
                clear ez27
                refine lv_iconst (v := 1) hx hb dX12_runs_181 (by decide) ?_
                refine lv_iadd hx hb dX12_runs_182 ?_
                refine lv_topi (fun z28 ez28 => ?_)
                clear ez28
                refine va_iast hx hb hK hP (mD hN _ _ _ _) hS 2 1 rfl rfl (i := (nI (119 + va))) (vp_in_nI (by omega) (by decide)) dX12_runs_183 (fun H locs hP _ hS => ?_)
                rw [nI_clamp (by omega)] at hP
                have hP : va_P (dC, dI) vwCl (mw ar cy (up2 st26 2 (119 + va) z28) sl15) H := hP
                obtain ⟨st29, hP, hG⟩ : ∃ y, va_P (dC, dI) vwCl (mw ar cy y sl15) H ∧ MG [1, 2, 3, 4, 5, 6, 7, 8, 9, 10, 11, 12, 13, 14, 15, 16, 17, 19, 20, 21, 22, 23] st y := ⟨up2 st26 2 (119 + va) z28, hP, hG.up (rz (mr_2_119_125 (119 + va) (by omega) (by omega))) (pn (pcl_2_119_125 (119 + va) (by omega) (by omega)) (by decide))⟩
                refine lv_aload_n hx hb dX12_runs_184 rfl (lv_at hl 3 rfl) ?_
                refine lv_bipush (v := 12) hx hb dX12_runs_185 (by decide) ?_
                refine va_calli (va_runV (As := [.int 12]) (rest := []) ⟨hx, hb, hml, hown, hts⟩ (m_draw l dC dI ar cy _ hN st29 sl15  hG.1) (cwV 1 hts gX12_runs_X12_draw rfl rfl rfl (by decide +kernel) ⟨Nat.le_of_ble_eq_true rfl, Nat.le_of_ble_eq_true rfl⟩) ⟨fun a U g mk q => ⟨q.1, mPre.blind q.2⟩, va_recv hK hP (ci := 11) (q0 := 0) rfl rfl, fun U hU hW => ⟨rfl, mPre.of hP hK hU hW⟩⟩ rfl rfl hl.1 rfl (lv_room (Nat.le_of_ble_eq_true rfl)) dX12_runs_187 ⟨Nat.le_of_ble_eq_true rfl, Nat.le_of_ble_eq_true rfl⟩) hS (fun q _ h => MA.le hS.1 q h) (MA.le hS.1) (fun r30 x t H locs ht hvm hw hB _ _ hS => ?_)
                have hP := mB.at ht hB
                clear hB ht hvm
                obtain ⟨st31, sl32⟩ := x
                obtain ⟨hG2, hL2, hw⟩ := hw
                have hL : LQ [7, 9] sl sl32 := hL.tr hL2 (by decide)
                clear hL2
                have hP : va_P (dC, dI) vwCl (mw ar cy st31 sl32) _ := hP
                have hG : MG [1, 2, 3, 4, 5, 6, 7, 8, 9, 10, 11, 12, 13, 14, 15, 16, 17, 19, 20, 21, 22, 23] st st31 := hG.tr hG2 (by decide)
                clear hG2
                clear hw
                refine lv_aload_n hx hb dX12_runs_190 rfl (lv_at hl 3 rfl) ?_
                refine va_get (D := (dC, dI)) (ci := 11) (v := .ref (ar 2)) (C := RX12) (T := TX12) (N := 47) hx hb hts ii_X12_runs hown hK hP 0 rfl rfl 14 (by decide) (hts _ mm_X12_runs_1) (fun _ hh => hh) rfl dX12_runs_191 ?_
                refine lv_bipush (v := 54) hx hb dX12_runs_194 (by decide) ?_
                refine lv_iload_n hx hb dX12_runs_196 rfl (lv_at hl 4 rfl) ?_
                refine lv_iadd hx hb dX12_runs_197 ?_
                refine zz_top (v := nI (54 + va)) (nI_add 54 va) ?_
                refine va_iald hx hb hK hP 2 1 rfl rfl (i := (nI (54 + va))) (vp_in_nI (by omega) (by decide)) dX12_runs_198 ?_
                refine lv_topi (fun z33 ez33 => ?_)
                clear ez33
                refine lv_icmp_lt (tgt := 203) hx hb dX12_runs_199 (by decide) (fun c12 => ?_) (fun c12 => ?_)
                · refine lv_aload_n hx hb dX12_runs_203 rfl (lv_at hl 3 rfl) ?_
                  refine va_get (D := (dC, dI)) (ci := 11) (v := .ref (ar 2)) (C := RX12) (T := TX12) (N := 47) hx hb hts ii_X12_runs hown hK hP 0 rfl rfl 14 (by decide) (hts _ mm_X12_runs_1) (fun _ hh => hh) rfl dX12_runs_204 ?_
                  refine lv_bipush (v := 111) hx hb dX12_runs_207 (by decide) ?_
                  refine lv_iload hx hb dX12_runs_209 (lv_at hl 0 rfl) ?_
                  refine lv_iadd hx hb dX12_runs_211 ?_
                  refine zz_top (v := nI (111 + n11)) (nI_add 111 n11) ?_
                  refine lv_dup2_11 hx hb dX12_runs_212 rfl rfl ?_
                  refine va_iald hx hb hK hP 2 1 rfl rfl (i := (nI (111 + n11))) (vp_in_nI (by omega) (by decide)) dX12_runs_213 ?_
                  refine lv_topi (fun z34 ez34 => ?_)
                  clear ez34
                  refine lv_iconst (v := 1) hx hb dX12_runs_214 (by decide) ?_
                  refine lv_iadd hx hb dX12_runs_215 ?_
                  refine lv_topi (fun z35 ez35 => ?_)
                  clear ez35
                  refine va_iast hx hb hK hP (mD hN _ _ _ _) hS 2 1 rfl rfl (i := (nI (111 + n11))) (vp_in_nI (by omega) (by decide)) dX12_runs_216 (fun H locs hP _ hS => ?_)
                  rw [nI_clamp (by omega)] at hP
                  have hP : va_P (dC, dI) vwCl (mw ar cy (up2 st31 2 (111 + n11) z35) sl32) H := hP
                  obtain ⟨st36, hP, hG⟩ : ∃ y, va_P (dC, dI) vwCl (mw ar cy y sl32) H ∧ MG [1, 2, 3, 4, 5, 6, 7, 8, 9, 10, 11, 12, 13, 14, 15, 16, 17, 19, 20, 21, 22, 23] st y := ⟨up2 st31 2 (111 + n11) z35, hP, hG.up (rz (mr_2_111_119 (111 + n11) (by omega) (by omega))) (pn (pcl_2_111_119 (111 + n11) (by omega) (by omega)) (by decide))⟩
                  refine lv_aload_n hx hb dX12_runs_217 rfl (lv_at hl 3 rfl) ?_
                  refine va_get (D := (dC, dI)) (ci := 11) (v := .ref (ar 2)) (C := RX12) (T := TX12) (N := 47) hx hb hts ii_X12_runs hown hK hP 0 rfl rfl 14 (by decide) (hts _ mm_X12_runs_1) (fun _ hh => hh) rfl dX12_runs_218 ?_
                  refine lv_bipush (v := 125) hx hb dX12_runs_221 (by decide) ?_
                  refine lv_iload_n hx hb dX12_runs_223 rfl (lv_at hl 4 rfl) ?_
                  refine lv_iadd hx hb dX12_runs_224 ?_
                  refine zz_top (v := nI (125 + va)) (nI_add 125 va) ?_
                  refine lv_dup2_11 hx hb dX12_runs_225 rfl rfl ?_
                  refine va_iald hx hb hK hP 2 1 rfl rfl (i := (nI (125 + va))) (vp_in_nI (by omega) (by decide)) dX12_runs_226 ?_
                  refine lv_topi (fun z37 ez37 => ?_)
                  clear ez37
                  refine lv_iconst (v := 1) hx hb dX12_runs_227 (by decide) ?_
                  refine lv_iadd hx hb dX12_runs_228 ?_
                  refine lv_topi (fun z38 ez38 => ?_)
                  clear ez38
                  refine va_iast hx hb hK hP (mD hN _ _ _ _) hS 2 1 rfl rfl (i := (nI (125 + va))) (vp_in_nI (by omega) (by decide)) dX12_runs_229 (fun H locs hP _ hS => ?_)
                  rw [nI_clamp (by omega)] at hP
                  have hP : va_P (dC, dI) vwCl (mw ar cy (up2 st36 2 (125 + va) z38) sl32) H := hP
                  obtain ⟨st39, hP, hG⟩ : ∃ y, va_P (dC, dI) vwCl (mw ar cy y sl32) H ∧ MG [1, 2, 3, 4, 5, 6, 7, 8, 9, 10, 11, 12, 13, 14, 15, 16, 17, 19, 20, 21, 22, 23] st y := ⟨up2 st36 2 (125 + va) z38, hP, hG.up (rz (mr_2_125_131 (125 + va) (by omega) (by omega))) (pn (pcl_2_125_131 (125 + va) (by omega) (by omega)) (by decide))⟩
                  exact W.vret hx hb hr (fun t ht hW => ⟨⟨(st39, sl32), rfl, ⟨hG, hL, trivial⟩, mB.of ht hP⟩, hS.F ht⟩) hS.2.2 dX12_runs_230
                · exact W.vret hx hb hr (fun t ht hW => ⟨⟨(st31, sl32), rfl, ⟨hG, hL, trivial⟩, mB.of ht hP⟩, hS.F ht⟩) hS.2.2 dX12_runs_202
              · exact W.vret hx hb hr (fun t ht hW => ⟨⟨(st14, sl15), rfl, ⟨hG, hL, trivial⟩, mB.of ht hP⟩, hS.F ht⟩) hS.2.2 dX12_runs_132
        · refine lv_if_ne (tgt := 89) hx hb dX12_runs_69 (by decide) (fun cc => absurd (by decide) cc) (fun _ => ?_)
          refine lv_aload_n hx hb dX12_runs_72 rfl (lv_at hl 2 rfl) ?_
          refine lv_bipush (v := 12) hx hb dX12_runs_73 (by decide) ?_
          refine va_calli (va_runV (As := [.int 12]) (rest := []) ⟨hx, hb, hml, hown, hts⟩ (m_draw l dC dI ar cy _ hN st sl  hG.1) (cwV 1 hts gX12_runs_X12_draw rfl rfl rfl (by decide +kernel) ⟨Nat.le_of_ble_eq_true rfl, Nat.le_of_ble_eq_true rfl⟩) ⟨fun a U g mk q => ⟨q.1, mPre.blind q.2⟩, va_recv hK hP (ci := 11) (q0 := 0) rfl rfl, fun U hU hW => ⟨rfl, mPre.of hP hK hU hW⟩⟩ rfl rfl hl.1 rfl (lv_room (Nat.le_of_ble_eq_true rfl)) dX12_runs_75 ⟨Nat.le_of_ble_eq_true rfl, Nat.le_of_ble_eq_true rfl⟩) hS (fun q _ h => MA.le hS.1 q h) (MA.le hS.1) (fun r40 x t H locs ht hvm hw hB _ _ hS => ?_)
          have hP := mB.at ht hB
          clear hB ht hvm
          obtain ⟨st41, sl42⟩ := x
          obtain ⟨hG2, hL2, hw⟩ := hw
          have hL : LQ [7, 9] sl sl42 := hL.tr hL2 (by decide)
          clear hL2
          have hP : va_P (dC, dI) vwCl (mw ar cy st41 sl42) _ := hP
          have hG : MG [1, 2, 3, 4, 5, 6, 7, 8, 9, 10, 11, 12, 13, 14, 15, 16, 17, 19, 20, 21, 22, 23] st st41 := hG.tr hG2 (by decide)
          clear hG2
          clear hw
          refine lv_aload_n hx hb dX12_runs_78 rfl (lv_at hl 2 rfl) ?_
          refine va_get (D := (dC, dI)) (ci := 11) (v := .ref (ar 2)) (C := RX12) (T := TX12) (N := 47) hx hb hts ii_X12_runs hown hK hP 0 rfl rfl 14 (by decide) (hts _ mm_X12_runs_1) (fun _ hh => hh) rfl dX12_runs_79 ?_
          refine lv_bipush (v := 62) hx hb dX12_runs_82 (by decide) ?_
          refine va_iald hx hb hK hP 2 1 rfl rfl (i := 62) (zz_in (by decide)) dX12_runs_84 ?_
          obtain ⟨n43, hn43, en43⟩ := hG.1.at (r := 2) (k := 62) (by decide : mr 2 62 = 13) (by decide)
          refine zz_top (v := nI n43) (by exact en43) ?_
          clear en43
          refine lv_icmp_lt (tgt := 89) hx hb dX12_runs_85 (by decide) (fun c14 => ?_) (fun c14 => ?_)
          · refine lv_aload_n hx hb dX12_runs_89 rfl (lv_at hl 2 rfl) ?_
            refine lv_iload hx hb dX12_runs_90 (lv_at hl 0 rfl) ?_
            refine va_calli (va_runV (As := [.int (nI n2)]) (rest := []) ⟨hx, hb, hml, hown, hts⟩ (m_isFenced l dC dI ar cy _ hN st41 sl42 (nI n2)  hG.1) (cwV 1 hts gX12_runs_X12_isFenced rfl rfl rfl (by decide +kernel) ⟨Nat.le_of_ble_eq_true rfl, Nat.le_of_ble_eq_true rfl⟩) ⟨fun a U g mk q => ⟨q.1, mPre.blind q.2⟩, va_recv hK hP (ci := 11) (q0 := 0) rfl rfl, fun U hU hW => ⟨rfl, mPre.of hP hK hU hW⟩⟩ rfl rfl hl.1 rfl (lv_room (Nat.le_of_ble_eq_true rfl)) dX12_runs_92 ⟨Nat.le_of_ble_eq_true rfl, Nat.le_of_ble_eq_true rfl⟩) hS (fun q _ h => MA.le hS.1 q h) (MA.le hS.1) (fun r44 x t H locs ht hvm hw hB _ _ hS => ?_)
            have hP := mB.at ht hB
            clear hB ht hvm
            obtain ⟨rfl, hw⟩ := hw
            have hP : va_P (dC, dI) vwCl (mw ar cy st41 sl42) _ := hP
            rcases hw with rfl | rfl
            · refine lv_if_eq (tgt := 99) hx hb dX12_runs_95 (by decide) (fun cc => absurd cc (by decide)) (fun _ => ?_)
              exact W.vret hx hb hr (fun t ht hW => ⟨⟨(st41, sl42), rfl, ⟨hG, hL, trivial⟩, mB.of ht hP⟩, hS.F ht⟩) hS.2.2 dX12_runs_98
            · refine lv_if_eq (tgt := 99) hx hb dX12_runs_95 (by decide) (fun _ => ?_) (fun cc => absurd (by decide) cc)
              refine lv_aload_n hx hb dX12_runs_99 rfl (lv_at hl 2 rfl) ?_
              refine lv_iload hx hb dX12_runs_100 (lv_at hl 0 rfl) ?_
              refine lv_iload_n hx hb dX12_runs_102 rfl (lv_at hl 4 rfl) ?_
              refine va_calli (va_runV (As := [.int (nI n2), .int vb]) (rest := []) ⟨hx, hb, hml, hown, hts⟩ (m_firstThere l dC dI ar cy _ hN st41 sl42 (nI n2) vb  hG.1) (cwV 2 hts gX12_runs_X12_firstThere rfl rfl rfl (by decide +kernel) ⟨Nat.le_of_ble_eq_true rfl, Nat.le_of_ble_eq_true rfl⟩) ⟨fun a U g mk q => ⟨q.1, mPre.blind q.2⟩, va_recv hK hP (ci := 11) (q0 := 0) rfl rfl, fun U hU hW => ⟨rfl, mPre.of hP hK hU hW⟩⟩ rfl rfl hl.1 rfl (lv_room (Nat.le_of_ble_eq_true rfl)) dX12_runs_103 ⟨Nat.le_of_ble_eq_true rfl, Nat.le_of_ble_eq_true rfl⟩) hS (fun q _ h => MA.le hS.1 q h) (MA.le hS.1) (fun r45 x t H locs ht hvm hw hB _ _ hS => ?_)
              have hP := mB.at ht hB
              clear hB ht hvm
              obtain ⟨rfl, hw⟩ := hw
              have hP : va_P (dC, dI) vwCl (mw ar cy st41 sl42) _ := hP
              rcases hw with rfl | ⟨n46, rfl, hf47⟩
              · refine lv_istore (lv' := [(5, .int (-1)), (4, .int (nI n2)), (3, .int (nI n1)), (0, .ref (ar 0)), (1, .int (nI va)), (2, .int vb)]) hx hb dX12_runs_106 hl (by decide) rfl (fun ls hl => ?_)
                refine lv_iload hx hb dX12_runs_108 (lv_at hl 0 rfl) ?_
                refine lv_iconst (v := (-1)) hx hb dX12_runs_110 (by decide) ?_
                refine lv_icmp_eq (tgt := 132) hx hb dX12_runs_111 (by decide) (fun _ => ?_) (fun cc => absurd (by decide) cc)
                exact W.vret hx hb hr (fun t ht hW => ⟨⟨(st41, sl42), rfl, ⟨hG, hL, trivial⟩, mB.of ht hP⟩, hS.F ht⟩) hS.2.2 dX12_runs_132
              · refine lv_istore (lv' := [(5, .int (nI n46)), (4, .int (nI n2)), (3, .int (nI n1)), (0, .ref (ar 0)), (1, .int (nI va)), (2, .int vb)]) hx hb dX12_runs_106 hl (by decide) rfl (fun ls hl => ?_)
                refine lv_iload hx hb dX12_runs_108 (lv_at hl 0 rfl) ?_
                refine lv_iconst (v := (-1)) hx hb dX12_runs_110 (by decide) ?_
                refine lv_icmp_eq (tgt := 132) hx hb dX12_runs_111 (by decide) (fun cc => absurd cc (nI_nem (by omega))) (fun _ => ?_)
                refine lv_aload_n hx hb dX12_runs_114 rfl (lv_at hl 3 rfl) ?_
                refine lv_bipush (v := 12) hx hb dX12_runs_115 (by decide) ?_
                refine va_calli (va_runV (As := [.int 12]) (rest := []) ⟨hx, hb, hml, hown, hts⟩ (m_draw l dC dI ar cy _ hN st41 sl42  hG.1) (cwV 1 hts gX12_runs_X12_draw rfl rfl rfl (by decide +kernel) ⟨Nat.le_of_ble_eq_true rfl, Nat.le_of_ble_eq_true rfl⟩) ⟨fun a U g mk q => ⟨q.1, mPre.blind q.2⟩, va_recv hK hP (ci := 11) (q0 := 0) rfl rfl, fun U hU hW => ⟨rfl, mPre.of hP hK hU hW⟩⟩ rfl rfl hl.1 rfl (lv_room (Nat.le_of_ble_eq_true rfl)) dX12_runs_117 ⟨Nat.le_of_ble_eq_true rfl, Nat.le_of_ble_eq_true rfl⟩) hS (fun q _ h => MA.le hS.1 q h) (MA.le hS.1) (fun r48 x t H locs ht hvm hw hB _ _ hS => ?_)
                have hP := mB.at ht hB
                clear hB ht hvm
                obtain ⟨st49, sl50⟩ := x
                obtain ⟨hG2, hL2, hw⟩ := hw
                have hL : LQ [7, 9] sl sl50 := hL.tr hL2 (by decide)
                clear hL2
                have hP : va_P (dC, dI) vwCl (mw ar cy st49 sl50) _ := hP
                have hG : MG [1, 2, 3, 4, 5, 6, 7, 8, 9, 10, 11, 12, 13, 14, 15, 16, 17, 19, 20, 21, 22, 23] st st49 := hG.tr hG2 (by decide)
                clear hG2
                clear hw
                refine lv_aload_n hx hb dX12_runs_120 rfl (lv_at hl 3 rfl) ?_
                refine va_get (D := (dC, dI)) (ci := 11) (v := .ref (ar 2)) (C := RX12) (T := TX12) (N := 47) hx hb hts ii_X12_runs hown hK hP 0 rfl rfl 14 (by decide) (hts _ mm_X12_runs_1) (fun _ hh => hh) rfl dX12_runs_121 ?_
                refine lv_bipush (v := 48) hx hb dX12_runs_124 (by decide) ?_
                refine lv_iload_n hx hb dX12_runs_126 rfl (lv_at hl 4 rfl) ?_
                refine lv_iadd hx hb dX12_runs_127 ?_
                refine zz_top (v := nI (48 + va)) (nI_add 48 va) ?_
                refine va_iald hx hb hK hP 2 1 rfl rfl (i := (nI (48 + va))) (vp_in_nI (by omega) (by decide)) dX12_runs_128 ?_
                obtain ⟨n51, hn51, en51⟩ := hG.1.at (r := 2) (k := (48 + va)) (mr_2_48_54 (48 + va) (by omega) (by omega)) (by decide)
                refine zz_top (v := nI n51) (by rw [nI_clamp (by omega)]; exact en51) ?_
                clear en51
                refine lv_icmp_ge (tgt := 133) hx hb dX12_runs_129 (by decide) (fun c19 => ?_) (fun c19 => ?_)
                · refine lv_aload_n hx hb dX12_runs_133 rfl (lv_at hl 3 rfl) ?_
                  refine lv_dup hx hb dX12_runs_134 rfl ?_
                  refine va_get (D := (dC, dI)) (ci := 11) (v := .int (st49 0 26)) (C := RX12) (T := TX12) (N := 47) hx hb hts ii_X12_runs hown hK hP 0 rfl rfl 26 (by decide) (hts _ mm_X12_runs_2) (fun _ hh => hh) rfl dX12_runs_135 ?_
                  refine lv_topi (fun z52 ez52 => ?_)
                  clear ez52
                  refine lv_iconst (v := 1) hx hb dX12_runs_138 (by decide) ?_
                  refine lv_iload hx hb dX12_runs_139 (lv_at hl 0 rfl) ?_
                  refine lv_ishl hx hb dX12_runs_141 ?_
                  refine lv_topi (fun z53 ez53 => ?_)
                  clear ez53
                  refine lv_ior hx hb dX12_runs_142 ?_
                  refine lv_topi (fun z54 ez54 => ?_)
                  clear ez54
                  refine va_put (D := (dC, dI)) (ci := 11) (v := .int z54) (ty := .int) (C := RX12) (T := TX12) (N := 47) hx hb hts ii_X12_runs tyX12 tyX12_ok nmX12 hown hK hP (mD hN _ _ _ _) hS 0 rfl rfl 26 (by decide) (hts _ mm_X12_runs_2) (fun _ hh => hh) rfl (by decide +kernel) rfl rfl (Nat.le_of_ble_eq_true rfl) dX12_runs_143 (fun H locs hP _ hS => ?_)
                  have hP : va_P (dC, dI) vwCl (mw ar cy (up2 st49 0 26 z54) sl50) H := hP
                  obtain ⟨st55, hP, hG⟩ : ∃ y, va_P (dC, dI) vwCl (mw ar cy y sl50) H ∧ MG [1, 2, 3, 4, 5, 6, 7, 8, 9, 10, 11, 12, 13, 14, 15, 16, 17, 19, 20, 21, 22, 23] st y := ⟨up2 st49 0 26 z54, hP, hG.up (rz (by decide : mr 0 26 = 0)) (pn (by decide : pcl 0 26 = 0) (by decide))⟩
                  refine lv_aload_n hx hb dX12_runs_146 rfl (lv_at hl 3 rfl) ?_
                  refine va_get (D := (dC, dI)) (ci := 11) (v := .ref (ar 2)) (C := RX12) (T := TX12) (N := 47) hx hb hts ii_X12_runs hown hK hP 0 rfl rfl 14 (by decide) (hts _ mm_X12_runs_1) (fun _ hh => hh) rfl dX12_runs_147 ?_
                  refine lv_bipush (v := 103) hx hb dX12_runs_150 (by decide) ?_
                  refine lv_iload hx hb dX12_runs_152 (lv_at hl 0 rfl) ?_
                  refine lv_iadd hx hb dX12_runs_154 ?_
                  refine zz_top (v := nI (103 + n46)) (nI_add 103 n46) ?_
                  refine lv_dup2_11 hx hb dX12_runs_155 rfl rfl ?_
                  refine va_iald hx hb hK hP 2 1 rfl rfl (i := (nI (103 + n46))) (vp_in_nI (by omega) (by decide)) dX12_runs_156 ?_
                  refine lv_topi (fun z56 ez56 => ?_)
                  clear ez56
                  refine lv_iconst (v := 1) hx hb dX12_runs_157 (by decide) ?_
                  refine lv_iadd hx hb dX12_runs_158 ?_
                  refine lv_topi (fun z57 ez57 => ?_)
                  clear ez57
                  refine va_iast hx hb hK hP (mD hN _ _ _ _) hS 2 1 rfl rfl (i := (nI (103 + n46))) (vp_in_nI (by omega) (by decide)) dX12_runs_159 (fun H locs hP _ hS => ?_)
                  rw [nI_clamp (by omega)] at hP
                  have hP : va_P (dC, dI) vwCl (mw ar cy (up2 st55 2 (103 + n46) z57) sl50) H := hP
                  obtain ⟨st58, hP, hG⟩ : ∃ y, va_P (dC, dI) vwCl (mw ar cy y sl50) H ∧ MG [1, 2, 3, 4, 5, 6, 7, 8, 9, 10, 11, 12, 13, 14, 15, 16, 17, 19, 20, 21, 22, 23] st y := ⟨up2 st55 2 (103 + n46) z57, hP, hG.up (rz (mr_2_103_111 (103 + n46) (by omega) (by omega))) (pn (pcl_2_103_111 (103 + n46) (by omega) (by omega)) (by decide))⟩
                  refine lv_aload_n hx hb dX12_runs_160 rfl (lv_at hl 3 rfl) ?_
                  refine va_get (D := (dC, dI)) (ci := 11) (v := .ref (ar 2)) (C := RX12) (T := TX12) (N := 47) hx hb hts ii_X12_runs hown hK hP 0 rfl rfl 14 (by decide) (hts _ mm_X12_runs_1) (fun _ hh => hh) rfl dX12_runs_161 ?_
                  refine lv_bipush (v := 63) hx hb dX12_runs_164 (by decide) ?_
                  refine lv_dup2_11 hx hb dX12_runs_166 rfl rfl ?_
                  refine va_iald hx hb hK hP 2 1 rfl rfl (i := 63) (zz_in (by decide)) dX12_runs_167 ?_
                  refine lv_topi (fun z59 ez59 => ?_)
                  clear ez59
                  refine lv_iconst (v := 1) hx hb dX12_runs_168 (by decide) ?_
                  refine lv_iadd hx hb dX12_runs_169 ?_
                  refine lv_topi (fun z60 ez60 => ?_)
                  clear ez60
                  refine va_iast hx hb hK hP (mD hN _ _ _ _) hS 2 1 rfl rfl (i := 63) (zz_in (by decide)) dX12_runs_170 (fun H locs hP _ hS => ?_)
                  have hP : va_P (dC, dI) vwCl (mw ar cy (up2 st58 2 63 z60) sl50) H := hP
                  obtain ⟨st61, hP, hG⟩ : ∃ y, va_P (dC, dI) vwCl (mw ar cy y sl50) H ∧ MG [1, 2, 3, 4, 5, 6, 7, 8, 9, 10, 11, 12, 13, 14, 15, 16, 17, 19, 20, 21, 22, 23] st y := ⟨up2 st58 2 63 z60, hP, hG.up (rz (by decide : mr 2 63 = 0)) (pn (by decide : pcl 2 63 = 0) (by decide))⟩
                  refine lv_aload_n hx hb dX12_runs_171 rfl (lv_at hl 3 rfl) ?_
                  refine va_get (D := (dC, dI)) (ci := 11) (v := .ref (ar 2)) (C := RX12) (T := TX12) (N := 47) hx hb hts ii_X12_runs hown hK hP 0 rfl rfl 14 (by decide) (hts _ mm_X12_runs_1) (fun _ hh => hh) rfl dX12_runs_172 ?_
                  refine lv_bipush (v := 119) hx hb dX12_runs_175 (by decide) ?_
                  refine lv_iload_n hx hb dX12_runs_177 rfl (lv_at hl 4 rfl) ?_
                  refine lv_iadd hx hb dX12_runs_178 ?_
                  refine zz_top (v := nI (119 + va)) (nI_add 119 va) ?_
                  refine lv_dup2_11 hx hb dX12_runs_179 rfl rfl ?_
                  refine va_iald hx hb hK hP 2 1 rfl rfl (i := (nI (119 + va))) (vp_in_nI (by omega) (by decide)) dX12_runs_180 ?_
                  refine lv_topi (fun z62 ez62 => ?_)
                  clear ez62
                  refine lv_iconst (v := 1) hx hb dX12_runs_181 (by decide) ?_
                  refine lv_iadd hx hb dX12_runs_182 ?_
                  refine lv_topi (fun z63 ez63 => ?_)
                  clear ez63
                  refine va_iast hx hb hK hP (mD hN _ _ _ _) hS 2 1 rfl rfl (i := (nI (119 + va))) (vp_in_nI (by omega) (by decide)) dX12_runs_183 (fun H locs hP _ hS => ?_)
                  rw [nI_clamp (by omega)] at hP
                  have hP : va_P (dC, dI) vwCl (mw ar cy (up2 st61 2 (119 + va) z63) sl50) H := hP
                  obtain ⟨st64, hP, hG⟩ : ∃ y, va_P (dC, dI) vwCl (mw ar cy y sl50) H ∧ MG [1, 2, 3, 4, 5, 6, 7, 8, 9, 10, 11, 12, 13, 14, 15, 16, 17, 19, 20, 21, 22, 23] st y := ⟨up2 st61 2 (119 + va) z63, hP, hG.up (rz (mr_2_119_125 (119 + va) (by omega) (by omega))) (pn (pcl_2_119_125 (119 + va) (by omega) (by omega)) (by decide))⟩
                  refine lv_aload_n hx hb dX12_runs_184 rfl (lv_at hl 3 rfl) ?_
                  refine lv_bipush (v := 12) hx hb dX12_runs_185 (by decide) ?_
                  refine va_calli (va_runV (As := [.int 12]) (rest := []) ⟨hx, hb, hml, hown, hts⟩ (m_draw l dC dI ar cy _ hN st64 sl50  hG.1) (cwV 1 hts gX12_runs_X12_draw rfl rfl rfl (by decide +kernel) ⟨Nat.le_of_ble_eq_true rfl, Nat.le_of_ble_eq_true rfl⟩) ⟨fun a U g mk q => ⟨q.1, mPre.blind q.2⟩, va_recv hK hP (ci := 11) (q0 := 0) rfl rfl, fun U hU hW => ⟨rfl, mPre.of hP hK hU hW⟩⟩ rfl rfl hl.1 rfl (lv_room (Nat.le_of_ble_eq_true rfl)) dX12_runs_187 ⟨Nat.le_of_ble_eq_true rfl, Nat.le_of_ble_eq_true rfl⟩) hS (fun q _ h => MA.le hS.1 q h) (MA.le hS.1) (fun r65 x t H locs ht hvm hw hB _ _ hS => ?_)
                  have hP := mB.at ht hB
                  clear hB ht hvm
                  obtain ⟨st66, sl67⟩ := x
                  obtain ⟨hG2, hL2, hw⟩ := hw
                  have hL : LQ [7, 9] sl sl67 := hL.tr hL2 (by decide)
                  clear hL2
                  have hP : va_P (dC, dI) vwCl (mw ar cy st66 sl67) _ := hP
                  have hG : MG [1, 2, 3, 4, 5, 6, 7, 8, 9, 10, 11, 12, 13, 14, 15, 16, 17, 19, 20, 21, 22, 23] st st66 := hG.tr hG2 (by decide)
                  clear hG2
                  clear hw
                  refine lv_aload_n hx hb dX12_runs_190 rfl (lv_at hl 3 rfl) ?_
                  refine va_get (D := (dC, dI)) (ci := 11) (v := .ref (ar 2)) (C := RX12) (T := TX12) (N := 47) hx hb hts ii_X12_runs hown hK hP 0 rfl rfl 14 (by decide) (hts _ mm_X12_runs_1) (fun _ hh => hh) rfl dX12_runs_191 ?_
                  refine lv_bipush (v := 54) hx hb dX12_runs_194 (by decide) ?_
                  refine lv_iload_n hx hb dX12_runs_196 rfl (lv_at hl 4 rfl) ?_
                  refine lv_iadd hx hb dX12_runs_197 ?_
                  refine zz_top (v := nI (54 + va)) (nI_add 54 va) ?_
                  refine va_iald hx hb hK hP 2 1 rfl rfl (i := (nI (54 + va))) (vp_in_nI (by omega) (by decide)) dX12_runs_198 ?_
                  refine lv_topi (fun z68 ez68 => ?_)
                  clear ez68
                  refine lv_icmp_lt (tgt := 203) hx hb dX12_runs_199 (by decide) (fun c20 => ?_) (fun c20 => ?_)
                  · refine lv_aload_n hx hb dX12_runs_203 rfl (lv_at hl 3 rfl) ?_
                    refine va_get (D := (dC, dI)) (ci := 11) (v := .ref (ar 2)) (C := RX12) (T := TX12) (N := 47) hx hb hts ii_X12_runs hown hK hP 0 rfl rfl 14 (by decide) (hts _ mm_X12_runs_1) (fun _ hh => hh) rfl dX12_runs_204 ?_
                    refine lv_bipush (v := 111) hx hb dX12_runs_207 (by decide) ?_
                    refine lv_iload hx hb dX12_runs_209 (lv_at hl 0 rfl) ?_
                    refine lv_iadd hx hb dX12_runs_211 ?_
                    refine zz_top (v := nI (111 + n46)) (nI_add 111 n46) ?_
                    refine lv_dup2_11 hx hb dX12_runs_212 rfl rfl ?_
                    refine va_iald hx hb hK hP 2 1 rfl rfl (i := (nI (111 + n46))) (vp_in_nI (by omega) (by decide)) dX12_runs_213 ?_
                    refine lv_topi (fun z69 ez69 => ?_)
                    clear ez69
                    refine lv_iconst (v := 1) hx hb dX12_runs_214 (by decide) ?_
                    refine lv_iadd hx hb dX12_runs_215 ?_
                    refine lv_topi (fun z70 ez70 => ?_)
                    clear ez70
                    refine va_iast hx hb hK hP (mD hN _ _ _ _) hS 2 1 rfl rfl (i := (nI (111 + n46))) (vp_in_nI (by omega) (by decide)) dX12_runs_216 (fun H locs hP _ hS => ?_)
                    rw [nI_clamp (by omega)] at hP
                    have hP : va_P (dC, dI) vwCl (mw ar cy (up2 st66 2 (111 + n46) z70) sl67) H := hP
                    obtain ⟨st71, hP, hG⟩ : ∃ y, va_P (dC, dI) vwCl (mw ar cy y sl67) H ∧ MG [1, 2, 3, 4, 5, 6, 7, 8, 9, 10, 11, 12, 13, 14, 15, 16, 17, 19, 20, 21, 22, 23] st y := ⟨up2 st66 2 (111 + n46) z70, hP, hG.up (rz (mr_2_111_119 (111 + n46) (by omega) (by omega))) (pn (pcl_2_111_119 (111 + n46) (by omega) (by omega)) (by decide))⟩
                    refine lv_aload_n hx hb dX12_runs_217 rfl (lv_at hl 3 rfl) ?_
                    refine va_get (D := (dC, dI)) (ci := 11) (v := .ref (ar 2)) (C := RX12) (T := TX12) (N := 47) hx hb hts ii_X12_runs hown hK hP 0 rfl rfl 14 (by decide) (hts _ mm_X12_runs_1) (fun _ hh => hh) rfl dX12_runs_218 ?_
                    refine lv_bipush (v := 125) hx hb dX12_runs_221 (by decide) ?_
                    refine lv_iload_n hx hb dX12_runs_223 rfl (lv_at hl 4 rfl) ?_
                    refine lv_iadd hx hb dX12_runs_224 ?_
                    refine zz_top (v := nI (125 + va)) (nI_add 125 va) ?_
                    refine lv_dup2_11 hx hb dX12_runs_225 rfl rfl ?_
                    refine va_iald hx hb hK hP 2 1 rfl rfl (i := (nI (125 + va))) (vp_in_nI (by omega) (by decide)) dX12_runs_226 ?_
                    refine lv_topi (fun z72 ez72 => ?_)
                    clear ez72
                    refine lv_iconst (v := 1) hx hb dX12_runs_227 (by decide) ?_
                    refine lv_iadd hx hb dX12_runs_228 ?_
                    refine lv_topi (fun z73 ez73 => ?_)
                    clear ez73
                    refine va_iast hx hb hK hP (mD hN _ _ _ _) hS 2 1 rfl rfl (i := (nI (125 + va))) (vp_in_nI (by omega) (by decide)) dX12_runs_229 (fun H locs hP _ hS => ?_)
                    rw [nI_clamp (by omega)] at hP
                    have hP : va_P (dC, dI) vwCl (mw ar cy (up2 st71 2 (125 + va) z73) sl67) H := hP
                    obtain ⟨st74, hP, hG⟩ : ∃ y, va_P (dC, dI) vwCl (mw ar cy y sl67) H ∧ MG [1, 2, 3, 4, 5, 6, 7, 8, 9, 10, 11, 12, 13, 14, 15, 16, 17, 19, 20, 21, 22, 23] st y := ⟨up2 st71 2 (125 + va) z73, hP, hG.up (rz (mr_2_125_131 (125 + va) (by omega) (by omega))) (pn (pcl_2_125_131 (125 + va) (by omega) (by omega)) (by decide))⟩
                    exact W.vret hx hb hr (fun t ht hW => ⟨⟨(st74, sl67), rfl, ⟨hG, hL, trivial⟩, mB.of ht hP⟩, hS.F ht⟩) hS.2.2 dX12_runs_230
                  · exact W.vret hx hb hr (fun t ht hW => ⟨⟨(st66, sl67), rfl, ⟨hG, hL, trivial⟩, mB.of ht hP⟩, hS.F ht⟩) hS.2.2 dX12_runs_202
                · exact W.vret hx hb hr (fun t ht hW => ⟨⟨(st49, sl50), rfl, ⟨hG, hL, trivial⟩, mB.of ht hP⟩, hS.F ht⟩) hS.2.2 dX12_runs_132
          · exact W.vret hx hb hr (fun t ht hW => ⟨⟨(st41, sl42), rfl, ⟨hG, hL, trivial⟩, mB.of ht hP⟩, hS.F ht⟩) hS.2.2 dX12_runs_88
      · refine lv_if_ne (tgt := 55) hx hb dX12_runs_51 (by decide) (fun cc => absurd (by decide) cc) (fun _ => ?_)
        exact W.vret hx hb hr (fun t ht hW => ⟨⟨(st, sl), rfl, ⟨hG, hL, trivial⟩, mB.of ht hP⟩, hS.F ht⟩) hS.2.2 dX12_runs_54
