set_option maxHeartbeats 4000000 in
set_option maxRecDepth 100000 in
theorem m_perils (l : Launch) (dC : Nat → ClassId) (dI : Nat → Nat → Nat) (ar : Nat → Nat) (cy : Nat → ClassId) (sz : Nat) (hN : MN ar) (st : Nat → Nat → Int32) (sl : Nat → Nat → Int64) (va : Int32) (hI : MI st) : Met l yX12_perils wsX12_perils ({ frames := 5, cells := 0, slots := 0, locals := 119 }) (va_Pc [.ref (ar 0), .int va] (mPre dC dI ar cy sz st sl)) (va_Qi (fun (r : Int32) (x : MT) => MG [1, 2, 3, 4, 5, 6, 7, 8, 9, 10, 11, 12, 13, 14, 15, 16, 17, 19, 20] st x.1 ∧ (True)) (mB dC dI ar cy) (MA ar sz)) 0 0 (MA ar sz) := by
  refine Met.ofW (cc := cX12_perils) (maxL := 2) (ret := (some .int)) (by decide) rfl ?_
  intro p e s m args below meth c s₁ B hml hv
  obtain ⟨rfl, hsz, hP, hK⟩ := hv
  have hx := B.exec
  have hb := B.bytes
  have hr := B.returns
  have hts := atoms_spec (ws := wsX12_perils) B.pre
  have hown : s.vm.findClass RX12 = some m.cls := findClass_of_methodNamed B.named
  subst hsz
  have hS : va_S (MA ar s.heap.size) s.heap s.heap [] := va_S.rf
  have hG : MG [1, 2, 3, 4, 5, 6, 7, 8, 9, 10, 11, 12, 13, 14, 15, 16, 17, 19, 20] st st := MG.rf hI
  have hl := lv_entry ([.ref (ar 0), .int va]) (n := 2) (Nat.le_of_ble_eq_true rfl)
  rw [lg_entry_eq]
  generalize (lg_sl ([.ref (ar 0), .int va]) ++ List.replicate (2 - (lg_sl ([.ref (ar 0), .int va])).length) Slot.unset).toArray = ls at hl ⊢
  have hl : lv_has ls 2 [(0, .ref (ar 0)), (1, .int va)] := hl
  clear hI
  refine lv_aload_n hx hb dX12_perils_0 rfl (lv_at hl 0 rfl) ?_
  refine lv_iconst (v := 0) hx hb dX12_perils_1 (by decide) ?_
  refine va_put (D := (dC, dI)) (ci := 11) (v := .int 0) (ty := .int) (C := RX12) (T := TX12) (N := 47) hx hb hts ii_X12_perils tyX12 tyX12_ok nmX12 hown hK hP (mD hN _ _ _ _) hS 0 rfl rfl 0 (by decide) (hts _ mm_X12_perils_1) (fun _ hh => hh) rfl (by decide +kernel) rfl rfl (Nat.le_of_ble_eq_true rfl) dX12_perils_2 (fun H locs hP _ hS => ?_)
  have hP : va_P (dC, dI) vwCl (mw ar cy (up2 st 0 0 0) sl) H := hP
  obtain ⟨st1, hP, hG⟩ : ∃ y, va_P (dC, dI) vwCl (mw ar cy y sl) H ∧ MG [1, 2, 3, 4, 5, 6, 7, 8, 9, 10, 11, 12, 13, 14, 15, 16, 17, 19, 20] st y := ⟨up2 st 0 0 0, hP, hG.up (rz (by decide : mr 0 0 = 0)) (pn (by decide : pcl 0 0 = 0) (by decide))⟩
  refine lv_aload_n hx hb dX12_perils_5 rfl (lv_at hl 0 rfl) ?_
  refine lv_iload_n hx hb dX12_perils_6 rfl (lv_at hl 1 rfl) ?_
  refine va_calli (va_runV (As := [.int va]) (rest := []) ⟨hx, hb, hml, hown, hts⟩ (m_isPerson l dC dI ar cy _ hN st1 sl va  hG.1) (cwV 1 hts gX12_perils_X12_isPerson rfl rfl rfl (by decide +kernel) ⟨Nat.le_of_ble_eq_true rfl, Nat.le_of_ble_eq_true rfl⟩) ⟨fun a U g mk q => ⟨q.1, mPre.blind q.2⟩, va_recv hK hP (ci := 11) (q0 := 0) rfl rfl, fun U hU hW => ⟨rfl, mPre.of hP hK hU hW⟩⟩ rfl rfl hl.1 rfl (lv_room (Nat.le_of_ble_eq_true rfl)) dX12_perils_7 ⟨Nat.le_of_ble_eq_true rfl, Nat.le_of_ble_eq_true rfl⟩) hS (fun q _ h => MA.le hS.1 q h) (MA.le hS.1) (fun r2 x t H locs ht hvm hw hB _ _ hS => ?_)
  have hP := mB.at ht hB
  clear hB ht hvm
  obtain ⟨rfl, hw⟩ := hw
  have hP : va_P (dC, dI) vwCl (mw ar cy st1 sl) _ := hP
  rcases hw with ⟨n3, rfl, hf4, rfl⟩ | rfl
  · refine lv_if_eq (tgt := 29) hx hb dX12_perils_10 (by decide) (fun cc => absurd cc (by decide)) (fun _ => ?_)
    refine lv_aload_n hx hb dX12_perils_13 rfl (lv_at hl 0 rfl) ?_
    refine lv_iload_n hx hb dX12_perils_14 rfl (lv_at hl 1 rfl) ?_
    refine va_calli (va_runV (As := [.int (nI n3)]) (rest := []) ⟨hx, hb, hml, hown, hts⟩ (m_dogsOf l dC dI ar cy _ hN st1 sl (nI n3)  hG.1) (cwV 1 hts gX12_perils_X12_dogsOf rfl rfl rfl (by decide +kernel) ⟨Nat.le_of_ble_eq_true rfl, Nat.le_of_ble_eq_true rfl⟩) ⟨fun a U g mk q => ⟨q.1, mPre.blind q.2⟩, va_recv hK hP (ci := 11) (q0 := 0) rfl rfl, fun U hU hW => ⟨rfl, mPre.of hP hK hU hW⟩⟩ rfl rfl hl.1 rfl (lv_room (Nat.le_of_ble_eq_true rfl)) dX12_perils_15 ⟨Nat.le_of_ble_eq_true rfl, Nat.le_of_ble_eq_true rfl⟩) hS (fun q _ h => MA.le hS.1 q h) (MA.le hS.1) (fun r5 x t H locs ht hvm hw hB _ _ hS => ?_)
    have hP := mB.at ht hB
    clear hB ht hvm
    obtain ⟨rfl, hw⟩ := hw
    have hP : va_P (dC, dI) vwCl (mw ar cy st1 sl) _ := hP
    clear hw
    refine lv_if_ne (tgt := 29) hx hb dX12_perils_18 (by decide) (fun c2 => ?_) (fun c2 => ?_)
    · refine lv_iconst (v := (-1)) hx hb dX12_perils_29 (by decide) ?_
      exact W.iret (v := (-1)) hx hb hr (fun t ht hW => ⟨⟨(-1), (st1, sl), rfl, ⟨hG, trivial⟩, mB.of ht hP⟩, hS.F ht⟩) hS.2.2 dX12_perils_30
    · refine lv_aload_n hx hb dX12_perils_21 rfl (lv_at hl 0 rfl) ?_
      refine lv_iload_n hx hb dX12_perils_22 rfl (lv_at hl 1 rfl) ?_
      refine va_calli (va_runV (As := [.int (nI n3)]) (rest := []) ⟨hx, hb, hml, hown, hts⟩ (m_layPerils l dC dI ar cy _ hN st1 sl n3 (by omega) hG.1) (cwV 1 hts gX12_perils_X12_layPerils rfl rfl rfl (by decide +kernel) ⟨Nat.le_of_ble_eq_true rfl, Nat.le_of_ble_eq_true rfl⟩) ⟨fun a U g mk q => ⟨q.1, mPre.blind q.2⟩, va_recv hK hP (ci := 11) (q0 := 0) rfl rfl, fun U hU hW => ⟨rfl, mPre.of hP hK hU hW⟩⟩ rfl rfl hl.1 rfl (lv_room (Nat.le_of_ble_eq_true rfl)) dX12_perils_23 ⟨Nat.le_of_ble_eq_true rfl, Nat.le_of_ble_eq_true rfl⟩) hS (fun q _ h => MA.le hS.1 q h) (MA.le hS.1) (fun r6 x t H locs ht hvm hw hB _ _ hS => ?_)
      have hP := mB.at ht hB
      clear hB ht hvm
      obtain ⟨st7, sl8⟩ := x
      obtain ⟨hG2, hw⟩ := hw
      dsimp only at hw
      have hP : va_P (dC, dI) vwCl (mw ar cy st7 sl8) _ := hP
      have hG : MG [1, 2, 3, 4, 5, 6, 7, 8, 9, 10, 11, 12, 13, 14, 15, 16, 17, 19, 20] st st7 := hG.tr hG2 (by decide)
      clear hG2
      have hf9 := hw
      refine lv_goto (tgt := 30) hx hb dX12_perils_26 (by decide) ?_
      exact W.iret (v := r6) hx hb hr (fun t ht hW => ⟨⟨r6, (st7, sl8), rfl, ⟨hG, trivial⟩, mB.of ht hP⟩, hS.F ht⟩) hS.2.2 dX12_perils_30
  · refine lv_if_eq (tgt := 29) hx hb dX12_perils_10 (by decide) (fun _ => ?_) (fun cc => absurd (by decide) cc)
    refine lv_iconst (v := (-1)) hx hb dX12_perils_29 (by decide) ?_
    exact W.iret (v := (-1)) hx hb hr (fun t ht hW => ⟨⟨(-1), (st1, sl), rfl, ⟨hG, trivial⟩, mB.of ht hP⟩, hS.F ht⟩) hS.2.2 dX12_perils_30
