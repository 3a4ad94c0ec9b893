set_option maxHeartbeats 4000000 in
set_option maxRecDepth 100000 in
theorem f_readOfAll (l : Launch) (dC : Nat → ClassId) (dI : Nat → Nat → Nat) (ar : Nat → Nat) (cy : Nat → ClassId) (sz : Nat) (hN : MN ar) (st : Nat → Nat → Int32) (sl : Nat → Nat → Int64) (va : Nat) (B : Nat → Nat) (g m : Nat) (p : Nat) (c : Nat → Nat) (nm : Nat → Nat → Nat) (hva : va < 196) (hI : MI st) (hB : MBt B g m st) (hT : TM B g m p st sl) (hR : RN c nm st sl) (hal : bAl B g m p) : Met l yX12_readOfAll wsX12_readOfAll ({ frames := 5, cells := 0, slots := 0, locals := 111 }) (va_Pc [.ref (ar 0), .int (nI va)] (mPre dC dI ar cy sz st sl)) (va_Qi (fun (r : Int32) (x : MT) => MG [1, 2, 3, 6, 7, 8, 9, 10, 11, 12, 14, 15, 20, 21, 22] st x.1 ∧ FM 7 st sl x.1 x.2 ∧ ((∃ q : Nat, r = 1 ∧ TM B g m q x.1 x.2 ∧ bOf B g m c nm p = (0, q, 0) ∧ x.1 0 10 = st 0 10) ∨ (∃ f : Nat, ∃ a : Nat, r = 0 ∧ x.1 0 10 = nI f ∧ x.1 0 11 = nI a ∧ 1 ≤ f ∧ bOf B g m c nm p = sf f a))) (mB dC dI ar cy) (MA ar sz)) 0 0 (MA ar sz) := by
  refine Met.ofW (cc := cX12_readOfAll) (maxL := 4) (ret := (some .boolean)) (by decide) rfl ?_
  intro p9 e s m9 args below meth c9 s₁ B9 hml hv
  obtain ⟨rfl, hsz, hP, hK⟩ := hv
  have hx := B9.exec
  have hb := B9.bytes
  have hr := B9.returns
  have hts := atoms_spec (ws := wsX12_readOfAll) B9.pre
  have hown : s.vm.findClass RX12 = some m9.cls := findClass_of_methodNamed B9.named
  subst hsz
  have hS : va_S (MA ar s.heap.size) s.heap s.heap [] := va_S.rf
  have hG : MG [1, 2, 3, 6, 7, 8, 9, 10, 11, 12, 14, 15, 20, 21, 22] st st := MG.rf hI
  have hl := lv_entry ([.ref (ar 0), .int (nI va)]) (n := 4) (Nat.le_of_ble_eq_true rfl)
  rw [lg_entry_eq]
  generalize (lg_sl ([.ref (ar 0), .int (nI va)]) ++ List.replicate (4 - (lg_sl ([.ref (ar 0), .int (nI va)])).length) Slot.unset).toArray = ls at hl ⊢
  have hl : lv_has ls 4 [(0, .ref (ar 0)), (1, .int (nI va))] := hl
  clear hI
  have hB1 := hB.2.2.1
  have hB2 := hB.2.2.2.1
  have hF : FM 7 st sl st sl := FM.rf
  have hp9 := hT.2.2.2.2.2.2
  have hk1 := tkd_lt (B := B) (g := g) (m := m) (p := p)
  have hk2 := tkx_le (B := B) (g := g) (m := m) (p := p) hp9
  have hk3 := tka_le (B := B) (g := g) (m := m) (p := p) hp9 hB.2.2.1
  have hk4 := tkv_lt (p := p) hB hp9
  have hk5 := tkw_lt (B := B) (g := g) (m := m) (p := p)
  have hR9 := hR.2.1
  have hal9 : tkw B g m p = 6 ∨ tkw B g m p = 7 ∨ tkw B g m p = 8 ∨ tkw B g m p = 5 ∨ tkw B g m p = 12 := hal
  refine lv_aload_n hx hb dX12_readOfAll_0 rfl (lv_at hl 0 rfl) ?_
  refine lv_bipush (v := 6) hx hb dX12_readOfAll_1 (by decide) ?_
  refine va_calli (va_runV (As := [.int 6]) (rest := []) ⟨hx, hb, hml, hown, hts⟩ (f_isWord6 l dC dI ar cy _ hN st sl B g m p hG.1 (MBt.fr hB hF) hT) (cwV 1 hts gX12_readOfAll_X12_isWord rfl rfl rfl (by decide +kernel) ⟨Nat.le_of_ble_eq_true rfl, Nat.le_of_ble_eq_true rfl⟩) ⟨fun a U g mk q => ⟨q.1, mPre.blind q.2⟩, va_recv hK hP (ci := 11) (q0 := 0) rfl rfl, fun U hU hW => ⟨rfl, mPre.of hP hK hU hW⟩⟩ rfl rfl hl.1 rfl (lv_room (Nat.le_of_ble_eq_true rfl)) dX12_readOfAll_3 ⟨Nat.le_of_ble_eq_true rfl, Nat.le_of_ble_eq_true rfl⟩) hS (fun q _ h => MA.le hS.1 q h) (MA.le hS.1) (fun r1 x t H locs ht hvm hw hB9 _ _ hS => ?_)
  have hP := mB.at ht hB9
  clear hB9 ht hvm
  obtain ⟨rfl, hw⟩ := hw
  have hP : va_P (dC, dI) vwCl (mw ar cy st sl) _ := hP
  rcases hw with ⟨rfl, hf2⟩ | ⟨rfl, hf3⟩
  · refine lv_istore_n (lv' := [(2, .int 1), (0, .ref (ar 0)), (1, .int (nI va))]) hx hb dX12_readOfAll_6 rfl hl (by decide) rfl (fun ls hl => ?_)
    refine lv_iload_n hx hb dX12_readOfAll_7 rfl (lv_at hl 0 rfl) ?_
    refine lv_if_ne (tgt := 20) hx hb dX12_readOfAll_8 (by decide) (fun _ => ?_) (fun cc => absurd cc (by decide))
    refine lv_aload_n hx hb dX12_readOfAll_20 rfl (lv_at hl 1 rfl) ?_
    refine va_get (D := (dC, dI)) (ci := 11) (v := .ref (ar 14)) (C := RX12) (T := TX12) (N := 47) hx hb hts ii_X12_readOfAll hown hK hP 0 rfl rfl 38 (by decide) (hts _ mm_X12_readOfAll_1) (fun _ hh => hh) rfl dX12_readOfAll_21 ?_
    refine lv_iload_n hx hb dX12_readOfAll_24 rfl (lv_at hl 2 rfl) ?_
    refine lv_iload_n hx hb dX12_readOfAll_25 rfl (lv_at hl 0 rfl) ?_
    refine lv_if_eq (tgt := 33) hx hb dX12_readOfAll_26 (by decide) (fun cc => absurd cc (by decide)) (fun _ => ?_)
    refine lv_iconst (v := 0) hx hb dX12_readOfAll_29 (by decide) ?_
    refine lv_goto (tgt := 34) hx hb dX12_readOfAll_30 (by decide) ?_
    refine va_iast hx hb hK hP (mD hN _ _ _ _) hS 14 13 rfl rfl (i := (nI va)) (vp_in_nI (by omega) (by decide)) dX12_readOfAll_34 (fun H locs hP _ hS => ?_)
    rw [nI_clamp (by omega)] at hP
    have hP : va_P (dC, dI) vwCl (mw ar cy (up2 st 14 va 0) sl) H := hP
    obtain ⟨st4, est4⟩ : ∃ y, y = up2 st 14 va 0 := ⟨_, rfl⟩
    have hG : MG [1, 2, 3, 6, 7, 8, 9, 10, 11, 12, 14, 15, 20, 21, 22] st st4 := by rw [est4]; exact hG.up (rz (mr_14_0_196 va (by omega) (by omega))) (pn (pcl_14_0_196 va (by omega) (by omega)) (by decide))
    rw [← est4] at hP
    have hF : FM 7 st sl st4 sl := by rw [est4]; exact hF.up (dm_ln _)
    have hT : TM B g m p st4 sl := by rw [est4]; exact hT.up (by omega)
    have hR : RN c nm st4 sl := by rw [est4]; exact hR.up (by omega)
    refine lv_aload_n hx hb dX12_readOfAll_35 rfl (lv_at hl 1 rfl) ?_
    refine va_callv (va_runV (As := []) (rest := []) ⟨hx, hb, hml, hown, hts⟩ (f_go l dC dI ar cy _ hN st4 sl B g m (tkx B g m p) hG.1 (MBt.fr hB hF) hT.1 hk2.2) (cwV 0 hts gX12_readOfAll_X12_go rfl rfl rfl (by decide +kernel) ⟨Nat.le_of_ble_eq_true rfl, Nat.le_of_ble_eq_true rfl⟩) ⟨fun a U g mk q => ⟨q.1, mPre.blind q.2⟩, va_recv hK hP (ci := 11) (q0 := 0) rfl rfl, fun U hU hW => ⟨rfl, mPre.of hP hK hU hW⟩⟩ rfl rfl hl.1 rfl (lv_room (Nat.le_of_ble_eq_true rfl)) dX12_readOfAll_36 ⟨Nat.le_of_ble_eq_true rfl, Nat.le_of_ble_eq_true rfl⟩) hS (fun q _ h => MA.le hS.1 q h) (MA.le hS.1) (fun x t H locs ht hvm hw hB9 _ _ hS => ?_)
    have hP := mB.at ht hB9
    clear hB9 ht hvm
    obtain ⟨st6, sl7⟩ := x
    obtain ⟨hG2, hF2, hw⟩ := hw
    dsimp only at hG2 hF2 hw
    have hP : va_P (dC, dI) vwCl (mw ar cy st6 sl7) _ := hP
    have hG : MG [1, 2, 3, 6, 7, 8, 9, 10, 11, 12, 14, 15, 20, 21, 22] st st6 := hG.tr hG2 (by decide)
    have hFst6 : FM 1 st4 sl st6 sl7 := hF2
    have hF : FM 7 st sl st6 sl7 := hF.tr hFst6 (by omega) (by omega)
    clear hG2 hF2
    have hR : RN c nm st6 sl7 := hR.fr hFst6
    have hT := hw
    have hp9 := hT.2.2.2.2.2.2
    have hk1 := tkd_lt (B := B) (g := g) (m := m) (p := (tkx B g m p))
    have hk2 := tkx_le (B := B) (g := g) (m := m) (p := (tkx B g m p)) hp9
    have hk3 := tka_le (B := B) (g := g) (m := m) (p := (tkx B g m p)) hp9 hB.2.2.1
    have hk4 := tkv_lt (p := (tkx B g m p)) hB hp9
    have hk5 := tkw_lt (B := B) (g := g) (m := m) (p := (tkx B g m p))
    refine lv_aload_n hx hb dX12_readOfAll_39 rfl (lv_at hl 1 rfl) ?_
    refine lv_iload_n hx hb dX12_readOfAll_40 rfl (lv_at hl 2 rfl) ?_
    refine lv_iconst (v := 1) hx hb dX12_readOfAll_41 (by decide) ?_
    refine lv_iadd hx hb dX12_readOfAll_42 ?_
    refine zz_top (v := nI (va + 1)) (nI_add va 1) ?_
    refine lv_aload_n hx hb dX12_readOfAll_43 rfl (lv_at hl 1 rfl) ?_
    refine va_calli (va_runV (As := []) (rest := [.int (nI (va + 1)), .ref (ar 0)]) ⟨hx, hb, hml, hown, hts⟩ (f_readPlaceName l dC dI ar cy _ hN st6 sl7 B g m (tkx B g m p) c nm hG.1 (MBt.fr hB hF) hT hR) (cwV 0 hts gX12_readOfAll_X12_readPlaceName rfl rfl rfl (by decide +kernel) ⟨Nat.le_of_ble_eq_true rfl, Nat.le_of_ble_eq_true rfl⟩) ⟨fun a U g mk q => ⟨q.1, mPre.blind q.2⟩, va_recv hK hP (ci := 11) (q0 := 0) rfl rfl, fun U hU hW => ⟨rfl, mPre.of hP hK hU hW⟩⟩ rfl rfl hl.1 rfl (lv_room (Nat.le_of_ble_eq_true rfl)) dX12_readOfAll_44 ⟨Nat.le_of_ble_eq_true rfl, Nat.le_of_ble_eq_true rfl⟩) hS (fun q _ h => MA.le hS.1 q h) (MA.le hS.1) (fun r8 x t H locs ht hvm hw hB9 _ _ hS => ?_)
    have hP := mB.at ht hB9
    clear hB9 ht hvm
    obtain ⟨st9, sl10⟩ := x
    obtain ⟨hG2, hF2, hw⟩ := hw
    dsimp only at hG2 hF2 hw
    have hP : va_P (dC, dI) vwCl (mw ar cy st9 sl10) _ := hP
    have hG : MG [1, 2, 3, 6, 7, 8, 9, 10, 11, 12, 14, 15, 20, 21, 22] st st9 := hG.tr hG2 (by decide)
    have hFst9 : FM 2 st6 sl7 st9 sl10 := hF2
    have hF : FM 7 st sl st9 sl10 := hF.tr hFst9 (by omega) (by omega)
    clear hG2 hF2
    have hR : RN c nm st9 sl10 := hR.fr hFst9
    rcases hw with ⟨n11, rfl, hf12, hf13, hT, hf14, hk15⟩ | ⟨n16, n17, rfl, hf18, hf19, hf20, hf21⟩
    · have hp9 := hT.2.2.2.2.2.2
      have hk1 := tkd_lt (B := B) (g := g) (m := m) (p := (tkx B g m (tkx B g m p)))
      have hk2 := tkx_le (B := B) (g := g) (m := m) (p := (tkx B g m (tkx B g m p))) hp9
      have hk3 := tka_le (B := B) (g := g) (m := m) (p := (tkx B g m (tkx B g m p))) hp9 hB.2.2.1
      have hk4 := tkv_lt (p := (tkx B g m (tkx B g m p))) hB hp9
      have hk5 := tkw_lt (B := B) (g := g) (m := m) (p := (tkx B g m (tkx B g m p)))
      refine va_calli (va_runV (As := [.int (nI (va + 1)), .int 1]) (rest := []) ⟨hx, hb, hml, hown, hts⟩ (f_keep1 l dC dI ar cy _ hN st9 sl10 (va + 1) B g m (tkx B g m (tkx B g m p)) n11 (by omega) hG.1 (MBt.fr hB hF) hT (by rw [hf13]) (by omega)) (cwV 2 hts gX12_readOfAll_X12_keep rfl rfl rfl (by decide +kernel) ⟨Nat.le_of_ble_eq_true rfl, Nat.le_of_ble_eq_true rfl⟩) ⟨fun a U g mk q => ⟨q.1, mPre.blind q.2⟩, va_recv hK hP (ci := 11) (q0 := 0) rfl rfl, fun U hU hW => ⟨rfl, mPre.of hP hK hU hW⟩⟩ rfl rfl hl.1 rfl (lv_room (Nat.le_of_ble_eq_true rfl)) dX12_readOfAll_47 ⟨Nat.le_of_ble_eq_true rfl, Nat.le_of_ble_eq_true rfl⟩) hS (fun q _ h => MA.le hS.1 q h) (MA.le hS.1) (fun r22 x t H locs ht hvm hw hB9 _ _ hS => ?_)
      have hP := mB.at ht hB9
      clear hB9 ht hvm
      obtain ⟨st23, sl24⟩ := x
      obtain ⟨hG2, hF2, hw⟩ := hw
      dsimp only at hG2 hF2 hw
      have hP : va_P (dC, dI) vwCl (mw ar cy st23 sl24) _ := hP
      have hG : MG [1, 2, 3, 6, 7, 8, 9, 10, 11, 12, 14, 15, 20, 21, 22] st st23 := hG.tr hG2 (by decide)
      have hFst23 : FM 7 st9 sl10 st23 sl24 := hF2
      have hF : FM 7 st sl st23 sl24 := hF.tr hFst23 (by omega) (by omega)
      clear hG2 hF2
      have hR : RN c nm st23 sl24 := hR.fr hFst23
      obtain ⟨rfl, hf25, hT, hk26⟩ := hw
      have hp9 := hT.2.2.2.2.2.2
      have hk1 := tkd_lt (B := B) (g := g) (m := m) (p := (tkx B g m (tkx B g m p)))
      have hk2 := tkx_le (B := B) (g := g) (m := m) (p := (tkx B g m (tkx B g m p))) hp9
      have hk3 := tka_le (B := B) (g := g) (m := m) (p := (tkx B g m (tkx B g m p))) hp9 hB.2.2.1
      have hk4 := tkv_lt (p := (tkx B g m (tkx B g m p))) hB hp9
      have hk5 := tkw_lt (B := B) (g := g) (m := m) (p := (tkx B g m (tkx B g m p)))
      refine lv_if_eq (tgt := 67) hx hb dX12_readOfAll_50 (by decide) (fun cc => absurd cc (by decide)) (fun _ => ?_)
      refine lv_aload_n hx hb dX12_readOfAll_53 rfl (lv_at hl 1 rfl) ?_
      refine lv_iload_n hx hb dX12_readOfAll_54 rfl (lv_at hl 2 rfl) ?_
      refine lv_iconst (v := 3) hx hb dX12_readOfAll_55 (by decide) ?_
      refine lv_iadd hx hb dX12_readOfAll_56 ?_
      refine zz_top (v := nI (va + 3)) (nI_add va 3) ?_
      refine va_calli (va_runV (As := [.int (nI (va + 3))]) (rest := []) ⟨hx, hb, hml, hown, hts⟩ (f_readHours l dC dI ar cy _ hN st23 sl24 (va + 3) B g m (tkx B g m (tkx B g m p)) c nm (by omega) hG.1 (MBt.fr hB hF) hT hR) (cwV 1 hts gX12_readOfAll_X12_readHours rfl rfl rfl (by decide +kernel) ⟨Nat.le_of_ble_eq_true rfl, Nat.le_of_ble_eq_true rfl⟩) ⟨fun a U g mk q => ⟨q.1, mPre.blind q.2⟩, va_recv hK hP (ci := 11) (q0 := 0) rfl rfl, fun U hU hW => ⟨rfl, mPre.of hP hK hU hW⟩⟩ rfl rfl hl.1 rfl (lv_room (Nat.le_of_ble_eq_true rfl)) dX12_readOfAll_57 ⟨Nat.le_of_ble_eq_true rfl, Nat.le_of_ble_eq_true rfl⟩) hS (fun q _ h => MA.le hS.1 q h) (MA.le hS.1) (fun r27 x t H locs ht hvm hw hB9 _ _ hS => ?_)
      have hP := mB.at ht hB9
      clear hB9 ht hvm
      obtain ⟨st28, sl29⟩ := x
      obtain ⟨hG2, hF2, hw⟩ := hw
      dsimp only at hG2 hF2 hw
      have hP : va_P (dC, dI) vwCl (mw ar cy st28 sl29) _ := hP
      have hG : MG [1, 2, 3, 6, 7, 8, 9, 10, 11, 12, 14, 15, 20, 21, 22] st st28 := hG.tr hG2 (by decide)
      have hFst28 : FM 7 st23 sl24 st28 sl29 := hF2
      have hF : FM 7 st sl st28 sl29 := hF.tr hFst28 (by omega) (by omega)
      clear hG2 hF2
      have hR : RN c nm st28 sl29 := hR.fr hFst28
      rcases hw with ⟨n30, rfl, hT, hf31, hk32⟩ | ⟨n33, n34, rfl, hf35, hf36, hf37, hf38⟩
      · have hp9 := hT.2.2.2.2.2.2
        have hk1 := tkd_lt (B := B) (g := g) (m := m) (p := n30)
        have hk2 := tkx_le (B := B) (g := g) (m := m) (p := n30) hp9
        have hk3 := tka_le (B := B) (g := g) (m := m) (p := n30) hp9 hB.2.2.1
        have hk4 := tkv_lt (p := n30) hB hp9
        have hk5 := tkw_lt (B := B) (g := g) (m := m) (p := n30)
        refine lv_if_eq (tgt := 67) hx hb dX12_readOfAll_60 (by decide) (fun cc => absurd cc (by decide)) (fun _ => ?_)
        refine lv_iconst (v := 1) hx hb dX12_readOfAll_63 (by decide) ?_
        refine lv_goto (tgt := 68) hx hb dX12_readOfAll_64 (by decide) ?_
        exact W.zret (v := 1) hx hb hr rfl (fun t ht hW => ⟨⟨1, (st28, sl29), rfl, ⟨hG, hF, Or.inl (⟨n30, rfl, hT, (bOf_h (by omega)).trans ((bPl_y hf14).trans hf31), by show st28 0 10 = st 0 10; rw [hk32, hk26, hk15, (hFst6 0 10 (by decide)).1, est4, up2_ne (r := 14) (k := va) (a := 0) (j := 10) _ _ (by omega)]⟩)⟩, mB.of ht hP⟩, hS.F ht⟩) hS.2.2 dX12_readOfAll_68
      · refine lv_if_eq (tgt := 67) hx hb dX12_readOfAll_60 (by decide) (fun _ => ?_) (fun cc => absurd (by decide) cc)
        refine lv_iconst (v := 0) hx hb dX12_readOfAll_67 (by decide) ?_
        exact W.zret (v := 0) hx hb hr rfl (fun t ht hW => ⟨⟨0, (st28, sl29), rfl, ⟨hG, hF, Or.inr (⟨n33, n34, rfl, by show st28 0 10 = _; rw [hf35], by show st28 0 11 = _; rw [hf36], hf37, (bOf_h (by omega)).trans ((bPl_y hf14).trans hf38)⟩)⟩, mB.of ht hP⟩, hS.F ht⟩) hS.2.2 dX12_readOfAll_68
    · refine va_calli (va_runV (As := [.int (nI (va + 1)), .int 0]) (rest := []) ⟨hx, hb, hml, hown, hts⟩ (f_keep0 l dC dI ar cy _ hN st9 sl10 (va + 1) (by omega) hG.1 ) (cwV 2 hts gX12_readOfAll_X12_keep rfl rfl rfl (by decide +kernel) ⟨Nat.le_of_ble_eq_true rfl, Nat.le_of_ble_eq_true rfl⟩) ⟨fun a U g mk q => ⟨q.1, mPre.blind q.2⟩, va_recv hK hP (ci := 11) (q0 := 0) rfl rfl, fun U hU hW => ⟨rfl, mPre.of hP hK hU hW⟩⟩ rfl rfl hl.1 rfl (lv_room (Nat.le_of_ble_eq_true rfl)) dX12_readOfAll_47 ⟨Nat.le_of_ble_eq_true rfl, Nat.le_of_ble_eq_true rfl⟩) hS (fun q _ h => MA.le hS.1 q h) (MA.le hS.1) (fun r39 x t H locs ht hvm hw hB9 _ _ hS => ?_)
      have hP := mB.at ht hB9
      clear hB9 ht hvm
      obtain ⟨rfl, hw⟩ := hw
      have hP : va_P (dC, dI) vwCl (mw ar cy st9 sl10) _ := hP
      obtain rfl := hw
      refine lv_if_eq (tgt := 67) hx hb dX12_readOfAll_50 (by decide) (fun _ => ?_) (fun cc => absurd (by decide) cc)
      refine lv_iconst (v := 0) hx hb dX12_readOfAll_67 (by decide) ?_
      exact W.zret (v := 0) hx hb hr rfl (fun t ht hW => ⟨⟨0, (st9, sl10), rfl, ⟨hG, hF, Or.inr (⟨n16, n17, rfl, by show st9 0 10 = _; rw [hf18], by show st9 0 11 = _; rw [hf19], hf20, (bOf_h (by omega)).trans (bPl_f hf21 hf20)⟩)⟩, mB.of ht hP⟩, hS.F ht⟩) hS.2.2 dX12_readOfAll_68
  · refine lv_istore_n (lv' := [(2, .int 0), (0, .ref (ar 0)), (1, .int (nI va))]) hx hb dX12_readOfAll_6 rfl hl (by decide) rfl (fun ls hl => ?_)
    refine lv_iload_n hx hb dX12_readOfAll_7 rfl (lv_at hl 0 rfl) ?_
    refine lv_if_ne (tgt := 20) hx hb dX12_readOfAll_8 (by decide) (fun cc => absurd (by decide) cc) (fun _ => ?_)
    refine lv_aload_n hx hb dX12_readOfAll_11 rfl (lv_at hl 1 rfl) ?_
    refine lv_bipush (v := 7) hx hb dX12_readOfAll_12 (by decide) ?_
    refine va_calli (va_runV (As := [.int 7]) (rest := []) ⟨hx, hb, hml, hown, hts⟩ (f_isWord7 l dC dI ar cy _ hN st sl B g m p hG.1 (MBt.fr hB hF) hT) (cwV 1 hts gX12_readOfAll_X12_isWord rfl rfl rfl (by decide +kernel) ⟨Nat.le_of_ble_eq_true rfl, Nat.le_of_ble_eq_true rfl⟩) ⟨fun a U g mk q => ⟨q.1, mPre.blind q.2⟩, va_recv hK hP (ci := 11) (q0 := 0) rfl rfl, fun U hU hW => ⟨rfl, mPre.of hP hK hU hW⟩⟩ rfl rfl hl.1 rfl (lv_room (Nat.le_of_ble_eq_true rfl)) dX12_readOfAll_14 ⟨Nat.le_of_ble_eq_true rfl, Nat.le_of_ble_eq_true rfl⟩) hS (fun q _ h => MA.le hS.1 q h) (MA.le hS.1) (fun r40 x t H locs ht hvm hw hB9 _ _ hS => ?_)
    have hP := mB.at ht hB9
    clear hB9 ht hvm
    obtain ⟨rfl, hw⟩ := hw
    have hP : va_P (dC, dI) vwCl (mw ar cy st sl) _ := hP
    rcases hw with ⟨rfl, hf41⟩ | ⟨rfl, hf42⟩
    · refine lv_if_eq (tgt := 69) hx hb dX12_readOfAll_17 (by decide) (fun cc => absurd cc (by decide)) (fun _ => ?_)
      refine lv_aload_n hx hb dX12_readOfAll_20 rfl (lv_at hl 1 rfl) ?_
      refine va_get (D := (dC, dI)) (ci := 11) (v := .ref (ar 14)) (C := RX12) (T := TX12) (N := 47) hx hb hts ii_X12_readOfAll hown hK hP 0 rfl rfl 38 (by decide) (hts _ mm_X12_readOfAll_1) (fun _ hh => hh) rfl dX12_readOfAll_21 ?_
      refine lv_iload_n hx hb dX12_readOfAll_24 rfl (lv_at hl 2 rfl) ?_
      refine lv_iload_n hx hb dX12_readOfAll_25 rfl (lv_at hl 0 rfl) ?_
      refine lv_if_eq (tgt := 33) hx hb dX12_readOfAll_26 (by decide) (fun _ => ?_) (fun cc => absurd (by decide) cc)
      refine lv_iconst (v := 1) hx hb dX12_readOfAll_33 (by decide) ?_
      refine va_iast hx hb hK hP (mD hN _ _ _ _) hS 14 13 rfl rfl (i := (nI va)) (vp_in_nI (by omega) (by decide)) dX12_readOfAll_34 (fun H locs hP _ hS => ?_)
      rw [nI_clamp (by omega)] at hP
      have hP : va_P (dC, dI) vwCl (mw ar cy (up2 st 14 va 1) sl) H := hP
      obtain ⟨st43, est43⟩ : ∃ y, y = up2 st 14 va 1 := ⟨_, rfl⟩
      have hG : MG [1, 2, 3, 6, 7, 8, 9, 10, 11, 12, 14, 15, 20, 21, 22] st st43 := by rw [est43]; exact hG.up (rz (mr_14_0_196 va (by omega) (by omega))) (pn (pcl_14_0_196 va (by omega) (by omega)) (by decide))
      rw [← est43] at hP
      have hF : FM 7 st sl st43 sl := by rw [est43]; exact hF.up (dm_ln _)
      have hT : TM B g m p st43 sl := by rw [est43]; exact hT.up (by omega)
      have hR : RN c nm st43 sl := by rw [est43]; exact hR.up (by omega)
      refine lv_aload_n hx hb dX12_readOfAll_35 rfl (lv_at hl 1 rfl) ?_
      refine va_callv (va_runV (As := []) (rest := []) ⟨hx, hb, hml, hown, hts⟩ (f_go l dC dI ar cy _ hN st43 sl B g m (tkx B g m p) hG.1 (MBt.fr hB hF) hT.1 hk2.2) (cwV 0 hts gX12_readOfAll_X12_go rfl rfl rfl (by decide +kernel) ⟨Nat.le_of_ble_eq_true rfl, Nat.le_of_ble_eq_true rfl⟩) ⟨fun a U g mk q => ⟨q.1, mPre.blind q.2⟩, va_recv hK hP (ci := 11) (q0 := 0) rfl rfl, fun U hU hW => ⟨rfl, mPre.of hP hK hU hW⟩⟩ rfl rfl hl.1 rfl (lv_room (Nat.le_of_ble_eq_true rfl)) dX12_readOfAll_36 ⟨Nat.le_of_ble_eq_true rfl, Nat.le_of_ble_eq_true rfl⟩) hS (fun q _ h => MA.le hS.1 q h) (MA.le hS.1) (fun x t H locs ht hvm hw hB9 _ _ hS => ?_)
      have hP := mB.at ht hB9
      clear hB9 ht hvm
      obtain ⟨st45, sl46⟩ := x
      obtain ⟨hG2, hF2, hw⟩ := hw
      dsimp only at hG2 hF2 hw
      have hP : va_P (dC, dI) vwCl (mw ar cy st45 sl46) _ := hP
      have hG : MG [1, 2, 3, 6, 7, 8, 9, 10, 11, 12, 14, 15, 20, 21, 22] st st45 := hG.tr hG2 (by decide)
      have hFst45 : FM 1 st43 sl st45 sl46 := hF2
      have hF : FM 7 st sl st45 sl46 := hF.tr hFst45 (by omega) (by omega)
      clear hG2 hF2
      have hR : RN c nm st45 sl46 := hR.fr hFst45
      have hT := hw
      have hp9 := hT.2.2.2.2.2.2
      have hk1 := tkd_lt (B := B) (g := g) (m := m) (p := (tkx B g m p))
      have hk2 := tkx_le (B := B) (g := g) (m := m) (p := (tkx B g m p)) hp9
      have hk3 := tka_le (B := B) (g := g) (m := m) (p := (tkx B g m p)) hp9 hB.2.2.1
      have hk4 := tkv_lt (p := (tkx B g m p)) hB hp9
      have hk5 := tkw_lt (B := B) (g := g) (m := m) (p := (tkx B g m p))
      refine lv_aload_n hx hb dX12_readOfAll_39 rfl (lv_at hl 1 rfl) ?_
      refine lv_iload_n hx hb dX12_readOfAll_40 rfl (lv_at hl 2 rfl) ?_
      refine lv_iconst (v := 1) hx hb dX12_readOfAll_41 (by decide) ?_
      refine lv_iadd hx hb dX12_readOfAll_42 ?_
      refine zz_top (v := nI (va + 1)) (nI_add va 1) ?_
      refine lv_aload_n hx hb dX12_readOfAll_43 rfl (lv_at hl 1 rfl) ?_
      refine va_calli (va_runV (As := []) (rest := [.int (nI (va + 1)), .ref (ar 0)]) ⟨hx, hb, hml, hown, hts⟩ (f_readPlaceName l dC dI ar cy _ hN st45 sl46 B g m (tkx B g m p) c nm hG.1 (MBt.fr hB hF) hT hR) (cwV 0 hts gX12_readOfAll_X12_readPlaceName rfl rfl rfl (by decide +kernel) ⟨Nat.le_of_ble_eq_true rfl, Nat.le_of_ble_eq_true rfl⟩) ⟨fun a U g mk q => ⟨q.1, mPre.blind q.2⟩, va_recv hK hP (ci := 11) (q0 := 0) rfl rfl, fun U hU hW => ⟨rfl, mPre.of hP hK hU hW⟩⟩ rfl rfl hl.1 rfl (lv_room (Nat.le_of_ble_eq_true rfl)) dX12_readOfAll_44 ⟨Nat.le_of_ble_eq_true rfl, Nat.le_of_ble_eq_true rfl⟩) hS (fun q _ h => MA.le hS.1 q h) (MA.le hS.1) (fun r47 x t H locs ht hvm hw hB9 _ _ hS => ?_)
      have hP := mB.at ht hB9
      clear hB9 ht hvm
      obtain ⟨st48, sl49⟩ := x
      obtain ⟨hG2, hF2, hw⟩ := hw
      dsimp only at hG2 hF2 hw
      have hP : va_P (dC, dI) vwCl (mw ar cy st48 sl49) _ := hP
      have hG : MG [1, 2, 3, 6, 7, 8, 9, 10, 11, 12, 14, 15, 20, 21, 22] st st48 := hG.tr hG2 (by decide)
      have hFst48 : FM 2 st45 sl46 st48 sl49 := hF2
      have hF : FM 7 st sl st48 sl49 := hF.tr hFst48 (by omega) (by omega)
      clear hG2 hF2
      have hR : RN c nm st48 sl49 := hR.fr hFst48
      rcases hw with ⟨n50, rfl, hf51, hf52, hT, hf53, hk54⟩ | ⟨n55, n56, rfl, hf57, hf58, hf59, hf60⟩
      · have hp9 := hT.2.2.2.2.2.2
        have hk1 := tkd_lt (B := B) (g := g) (m := m) (p := (tkx B g m (tkx B g m p)))
        have hk2 := tkx_le (B := B) (g := g) (m := m) (p := (tkx B g m (tkx B g m p))) hp9
        have hk3 := tka_le (B := B) (g := g) (m := m) (p := (tkx B g m (tkx B g m p))) hp9 hB.2.2.1
        have hk4 := tkv_lt (p := (tkx B g m (tkx B g m p))) hB hp9
        have hk5 := tkw_lt (B := B) (g := g) (m := m) (p := (tkx B g m (tkx B g m p)))
        refine va_calli (va_runV (As := [.int (nI (va + 1)), .int 1]) (rest := []) ⟨hx, hb, hml, hown, hts⟩ (f_keep1 l dC dI ar cy _ hN st48 sl49 (va + 1) B g m (tkx B g m (tkx B g m p)) n50 (by omega) hG.1 (MBt.fr hB hF) hT (by rw [hf52]) (by omega)) (cwV 2 hts gX12_readOfAll_X12_keep rfl rfl rfl (by decide +kernel) ⟨Nat.le_of_ble_eq_true rfl, Nat.le_of_ble_eq_true rfl⟩) ⟨fun a U g mk q => ⟨q.1, mPre.blind q.2⟩, va_recv hK hP (ci := 11) (q0 := 0) rfl rfl, fun U hU hW => ⟨rfl, mPre.of hP hK hU hW⟩⟩ rfl rfl hl.1 rfl (lv_room (Nat.le_of_ble_eq_true rfl)) dX12_readOfAll_47 ⟨Nat.le_of_ble_eq_true rfl, Nat.le_of_ble_eq_true rfl⟩) hS (fun q _ h => MA.le hS.1 q h) (MA.le hS.1) (fun r61 x t H locs ht hvm hw hB9 _ _ hS => ?_)
        have hP := mB.at ht hB9
        clear hB9 ht hvm
        obtain ⟨st62, sl63⟩ := x
        obtain ⟨hG2, hF2, hw⟩ := hw
        dsimp only at hG2 hF2 hw
        have hP : va_P (dC, dI) vwCl (mw ar cy st62 sl63) _ := hP
        have hG : MG [1, 2, 3, 6, 7, 8, 9, 10, 11, 12, 14, 15, 20, 21, 22] st st62 := hG.tr hG2 (by decide)
        have hFst62 : FM 7 st48 sl49 st62 sl63 := hF2
        have hF : FM 7 st sl st62 sl63 := hF.tr hFst62 (by omega) (by omega)
        clear hG2 hF2
        have hR : RN c nm st62 sl63 := hR.fr hFst62
        obtain ⟨rfl, hf64, hT, hk65⟩ := hw
        have hp9 := hT.2.2.2.2.2.2
        have hk1 := tkd_lt (B := B) (g := g) (m := m) (p := (tkx B g m (tkx B g m p)))
        have hk2 := tkx_le (B := B) (g := g) (m := m) (p := (tkx B g m (tkx B g m p))) hp9
        have hk3 := tka_le (B := B) (g := g) (m := m) (p := (tkx B g m (tkx B g m p))) hp9 hB.2.2.1
        have hk4 := tkv_lt (p := (tkx B g m (tkx B g m p))) hB hp9
        have hk5 := tkw_lt (B := B) (g := g) (m := m) (p := (tkx B g m (tkx B g m p)))
        refine lv_if_eq (tgt := 67) hx hb dX12_readOfAll_50 (by decide) (fun cc => absurd cc (by decide)) (fun _ => ?_)
        refine lv_aload_n hx hb dX12_readOfAll_53 rfl (lv_at hl 1 rfl) ?_
        refine lv_iload_n hx hb dX12_readOfAll_54 rfl (lv_at hl 2 rfl) ?_
        refine lv_iconst (v := 3) hx hb dX12_readOfAll_55 (by decide) ?_
        refine lv_iadd hx hb dX12_readOfAll_56 ?_
        refine zz_top (v := nI (va + 3)) (nI_add va 3) ?_
        refine va_calli (va_runV (As := [.int (nI (va + 3))]) (rest := []) ⟨hx, hb, hml, hown, hts⟩ (f_readHours l dC dI ar cy _ hN st62 sl63 (va + 3) B g m (tkx B g m (tkx B g m p)) c nm (by omega) hG.1 (MBt.fr hB hF) hT hR) (cwV 1 hts gX12_readOfAll_X12_readHours rfl rfl rfl (by decide +kernel) ⟨Nat.le_of_ble_eq_true rfl, Nat.le_of_ble_eq_true rfl⟩) ⟨fun a U g mk q => ⟨q.1, mPre.blind q.2⟩, va_recv hK hP (ci := 11) (q0 := 0) rfl rfl, fun U hU hW => ⟨rfl, mPre.of hP hK hU hW⟩⟩ rfl rfl hl.1 rfl (lv_room (Nat.le_of_ble_eq_true rfl)) dX12_readOfAll_57 ⟨Nat.le_of_ble_eq_true rfl, Nat.le_of_ble_eq_true rfl⟩) hS (fun q _ h => MA.le hS.1 q h) (MA.le hS.1) (fun r66 x t H locs ht hvm hw hB9 _ _ hS => ?_)
        have hP := mB.at ht hB9
        clear hB9 ht hvm
        obtain ⟨st67, sl68⟩ := x
        obtain ⟨hG2, hF2, hw⟩ := hw
        dsimp only at hG2 hF2 hw
        have hP : va_P (dC, dI) vwCl (mw ar cy st67 sl68) _ := hP
        have hG : MG [1, 2, 3, 6, 7, 8, 9, 10, 11, 12, 14, 15, 20, 21, 22] st st67 := hG.tr hG2 (by decide)
        have hFst67 : FM 7 st62 sl63 st67 sl68 := hF2
        have hF : FM 7 st sl st67 sl68 := hF.tr hFst67 (by omega) (by omega)
        clear hG2 hF2
        have hR : RN c nm st67 sl68 := hR.fr hFst67
        rcases hw with ⟨n69, rfl, hT, hf70, hk71⟩ | ⟨n72, n73, rfl, hf74, hf75, hf76, hf77⟩
        · have hp9 := hT.2.2.2.2.2.2
          have hk1 := tkd_lt (B := B) (g := g) (m := m) (p := n69)
          have hk2 := tkx_le (B := B) (g := g) (m := m) (p := n69) hp9
          have hk3 := tka_le (B := B) (g := g) (m := m) (p := n69) hp9 hB.2.2.1
          have hk4 := tkv_lt (p := n69) hB hp9
          have hk5 := tkw_lt (B := B) (g := g) (m := m) (p := n69)
          refine lv_if_eq (tgt := 67) hx hb dX12_readOfAll_60 (by decide) (fun cc => absurd cc (by decide)) (fun _ => ?_)
          refine lv_iconst (v := 1) hx hb dX12_readOfAll_63 (by decide) ?_
          refine lv_goto (tgt := 68) hx hb dX12_readOfAll_64 (by decide) ?_
          exact W.zret (v := 1) hx hb hr rfl (fun t ht hW => ⟨⟨1, (st67, sl68), rfl, ⟨hG, hF, Or.inl (⟨n69, rfl, hT, (bOf_h (by omega)).trans ((bPl_y hf53).trans hf70), by show st67 0 10 = st 0 10; rw [hk71, hk65, hk54, (hFst45 0 10 (by decide)).1, est43, up2_ne (r := 14) (k := va) (a := 0) (j := 10) _ _ (by omega)]⟩)⟩, mB.of ht hP⟩, hS.F ht⟩) hS.2.2 dX12_readOfAll_68
        · refine lv_if_eq (tgt := 67) hx hb dX12_readOfAll_60 (by decide) (fun _ => ?_) (fun cc => absurd (by decide) cc)
          refine lv_iconst (v := 0) hx hb dX12_readOfAll_67 (by decide) ?_
          exact W.zret (v := 0) hx hb hr rfl (fun t ht hW => ⟨⟨0, (st67, sl68), rfl, ⟨hG, hF, Or.inr (⟨n72, n73, rfl, by show st67 0 10 = _; rw [hf74], by show st67 0 11 = _; rw [hf75], hf76, (bOf_h (by omega)).trans ((bPl_y hf53).trans hf77)⟩)⟩, mB.of ht hP⟩, hS.F ht⟩) hS.2.2 dX12_readOfAll_68
      · refine va_calli (va_runV (As := [.int (nI (va + 1)), .int 0]) (rest := []) ⟨hx, hb, hml, hown, hts⟩ (f_keep0 l dC dI ar cy _ hN st48 sl49 (va + 1) (by omega) hG.1 ) (cwV 2 hts gX12_readOfAll_X12_keep rfl rfl rfl (by decide +kernel) ⟨Nat.le_of_ble_eq_true rfl, Nat.le_of_ble_eq_true rfl⟩) ⟨fun a U g mk q => ⟨q.1, mPre.blind q.2⟩, va_recv hK hP (ci := 11) (q0 := 0) rfl rfl, fun U hU hW => ⟨rfl, mPre.of hP hK hU hW⟩⟩ rfl rfl hl.1 rfl (lv_room (Nat.le_of_ble_eq_true rfl)) dX12_readOfAll_47 ⟨Nat.le_of_ble_eq_true rfl, Nat.le_of_ble_eq_true rfl⟩) hS (fun q _ h => MA.le hS.1 q h) (MA.le hS.1) (fun r78 x t H locs ht hvm hw hB9 _ _ hS => ?_)
        have hP := mB.at ht hB9
        clear hB9 ht hvm
        obtain ⟨rfl, hw⟩ := hw
        have hP : va_P (dC, dI) vwCl (mw ar cy st48 sl49) _ := hP
        obtain rfl := hw
        refine lv_if_eq (tgt := 67) hx hb dX12_readOfAll_50 (by decide) (fun _ => ?_) (fun cc => absurd (by decide) cc)
        refine lv_iconst (v := 0) hx hb dX12_readOfAll_67 (by decide) ?_
        exact W.zret (v := 0) hx hb hr rfl (fun t ht hW => ⟨⟨0, (st48, sl49), rfl, ⟨hG, hF, Or.inr (⟨n55, n56, rfl, by show st48 0 10 = _; rw [hf57], by show st48 0 11 = _; rw [hf58], hf59, (bOf_h (by omega)).trans (bPl_f hf60 hf59)⟩)⟩, mB.of ht hP⟩, hS.F ht⟩) hS.2.2 dX12_readOfAll_68
    · refine lv_if_eq (tgt := 69) hx hb dX12_readOfAll_17 (by decide) (fun _ => ?_) (fun cc => absurd (by decide) cc)
      refine lv_aload_n hx hb dX12_readOfAll_69 rfl (lv_at hl 1 rfl) ?_
      refine lv_bipush (v := 8) hx hb dX12_readOfAll_70 (by decide) ?_
      refine va_calli (va_runV (As := [.int 8]) (rest := []) ⟨hx, hb, hml, hown, hts⟩ (f_isWord8 l dC dI ar cy _ hN st sl B g m p hG.1 (MBt.fr hB hF) hT) (cwV 1 hts gX12_readOfAll_X12_isWord rfl rfl rfl (by decide +kernel) ⟨Nat.le_of_ble_eq_true rfl, Nat.le_of_ble_eq_true rfl⟩) ⟨fun a U g mk q => ⟨q.1, mPre.blind q.2⟩, va_recv hK hP (ci := 11) (q0 := 0) rfl rfl, fun U hU hW => ⟨rfl, mPre.of hP hK hU hW⟩⟩ rfl rfl hl.1 rfl (lv_room (Nat.le_of_ble_eq_true rfl)) dX12_readOfAll_72 ⟨Nat.le_of_ble_eq_true rfl, Nat.le_of_ble_eq_true rfl⟩) hS (fun q _ h => MA.le hS.1 q h) (MA.le hS.1) (fun r79 x t H locs ht hvm hw hB9 _ _ hS => ?_)
      have hP := mB.at ht hB9
      clear hB9 ht hvm
      obtain ⟨rfl, hw⟩ := hw
      have hP : va_P (dC, dI) vwCl (mw ar cy st sl) _ := hP
      rcases hw with ⟨rfl, hf80⟩ | ⟨rfl, hf81⟩
      · refine lv_if_eq (tgt := 101) hx hb dX12_readOfAll_75 (by decide) (fun cc => absurd cc (by decide)) (fun _ => ?_)
        refine lv_aload_n hx hb dX12_readOfAll_78 rfl (lv_at hl 1 rfl) ?_
        refine va_get (D := (dC, dI)) (ci := 11) (v := .ref (ar 14)) (C := RX12) (T := TX12) (N := 47) hx hb hts ii_X12_readOfAll hown hK hP 0 rfl rfl 38 (by decide) (hts _ mm_X12_readOfAll_1) (fun _ hh => hh) rfl dX12_readOfAll_79 ?_
        refine lv_iload_n hx hb dX12_readOfAll_82 rfl (lv_at hl 2 rfl) ?_
        refine lv_iconst (v := 5) hx hb dX12_readOfAll_83 (by decide) ?_
        refine va_iast hx hb hK hP (mD hN _ _ _ _) hS 14 13 rfl rfl (i := (nI va)) (vp_in_nI (by omega) (by decide)) dX12_readOfAll_84 (fun H locs hP _ hS => ?_)
        rw [nI_clamp (by omega)] at hP
        have hP : va_P (dC, dI) vwCl (mw ar cy (up2 st 14 va 5) sl) H := hP
        obtain ⟨st82, est82⟩ : ∃ y, y = up2 st 14 va 5 := ⟨_, rfl⟩
        have hG : MG [1, 2, 3, 6, 7, 8, 9, 10, 11, 12, 14, 15, 20, 21, 22] st st82 := by rw [est82]; exact hG.up (rz (mr_14_0_196 va (by omega) (by omega))) (pn (pcl_14_0_196 va (by omega) (by omega)) (by decide))
        rw [← est82] at hP
        have hF : FM 7 st sl st82 sl := by rw [est82]; exact hF.up (dm_ln _)
        have hT : TM B g m p st82 sl := by rw [est82]; exact hT.up (by omega)
        have hR : RN c nm st82 sl := by rw [est82]; exact hR.up (by omega)
        refine lv_aload_n hx hb dX12_readOfAll_85 rfl (lv_at hl 1 rfl) ?_
        refine va_callv (va_runV (As := []) (rest := []) ⟨hx, hb, hml, hown, hts⟩ (f_go l dC dI ar cy _ hN st82 sl B g m (tkx B g m p) hG.1 (MBt.fr hB hF) hT.1 hk2.2) (cwV 0 hts gX12_readOfAll_X12_go rfl rfl rfl (by decide +kernel) ⟨Nat.le_of_ble_eq_true rfl, Nat.le_of_ble_eq_true rfl⟩) ⟨fun a U g mk q => ⟨q.1, mPre.blind q.2⟩, va_recv hK hP (ci := 11) (q0 := 0) rfl rfl, fun U hU hW => ⟨rfl, mPre.of hP hK hU hW⟩⟩ rfl rfl hl.1 rfl (lv_room (Nat.le_of_ble_eq_true rfl)) dX12_readOfAll_86 ⟨Nat.le_of_ble_eq_true rfl, Nat.le_of_ble_eq_true rfl⟩) hS (fun q _ h => MA.le hS.1 q h) (MA.le hS.1) (fun x t H locs ht hvm hw hB9 _ _ hS => ?_)
        have hP := mB.at ht hB9
        clear hB9 ht hvm
        obtain ⟨st84, sl85⟩ := x
        obtain ⟨hG2, hF2, hw⟩ := hw
        dsimp only at hG2 hF2 hw
        have hP : va_P (dC, dI) vwCl (mw ar cy st84 sl85) _ := hP
        have hG : MG [1, 2, 3, 6, 7, 8, 9, 10, 11, 12, 14, 15, 20, 21, 22] st st84 := hG.tr hG2 (by decide)
        have hFst84 : FM 1 st82 sl st84 sl85 := hF2
        have hF : FM 7 st sl st84 sl85 := hF.tr hFst84 (by omega) (by omega)
        clear hG2 hF2
        have hR : RN c nm st84 sl85 := hR.fr hFst84
        have hT := hw
        have hp9 := hT.2.2.2.2.2.2
        have hk1 := tkd_lt (B := B) (g := g) (m := m) (p := (tkx B g m p))
        have hk2 := tkx_le (B := B) (g := g) (m := m) (p := (tkx B g m p)) hp9
        have hk3 := tka_le (B := B) (g := g) (m := m) (p := (tkx B g m p)) hp9 hB.2.2.1
        have hk4 := tkv_lt (p := (tkx B g m p)) hB hp9
        have hk5 := tkw_lt (B := B) (g := g) (m := m) (p := (tkx B g m p))
        refine lv_aload_n hx hb dX12_readOfAll_89 rfl (lv_at hl 1 rfl) ?_
        refine lv_iload_n hx hb dX12_readOfAll_90 rfl (lv_at hl 2 rfl) ?_
        refine lv_iconst (v := 1) hx hb dX12_readOfAll_91 (by decide) ?_
        refine lv_iadd hx hb dX12_readOfAll_92 ?_
        refine zz_top (v := nI (va + 1)) (nI_add va 1) ?_
        refine lv_aload_n hx hb dX12_readOfAll_93 rfl (lv_at hl 1 rfl) ?_
        refine va_calli (va_runV (As := []) (rest := [.int (nI (va + 1)), .ref (ar 0)]) ⟨hx, hb, hml, hown, hts⟩ (f_readPlaceName l dC dI ar cy _ hN st84 sl85 B g m (tkx B g m p) c nm hG.1 (MBt.fr hB hF) hT hR) (cwV 0 hts gX12_readOfAll_X12_readPlaceName rfl rfl rfl (by decide +kernel) ⟨Nat.le_of_ble_eq_true rfl, Nat.le_of_ble_eq_true rfl⟩) ⟨fun a U g mk q => ⟨q.1, mPre.blind q.2⟩, va_recv hK hP (ci := 11) (q0 := 0) rfl rfl, fun U hU hW => ⟨rfl, mPre.of hP hK hU hW⟩⟩ rfl rfl hl.1 rfl (lv_room (Nat.le_of_ble_eq_true rfl)) dX12_readOfAll_94 ⟨Nat.le_of_ble_eq_true rfl, Nat.le_of_ble_eq_true rfl⟩) hS (fun q _ h => MA.le hS.1 q h) (MA.le hS.1) (fun r86 x t H locs ht hvm hw hB9 _ _ hS => ?_)
        have hP := mB.at ht hB9
        clear hB9 ht hvm
        obtain ⟨st87, sl88⟩ := x
        obtain ⟨hG2, hF2, hw⟩ := hw
        dsimp only at hG2 hF2 hw
        have hP : va_P (dC, dI) vwCl (mw ar cy st87 sl88) _ := hP
        have hG : MG [1, 2, 3, 6, 7, 8, 9, 10, 11, 12, 14, 15, 20, 21, 22] st st87 := hG.tr hG2 (by decide)
        have hFst87 : FM 2 st84 sl85 st87 sl88 := hF2
        have hF : FM 7 st sl st87 sl88 := hF.tr hFst87 (by omega) (by omega)
        clear hG2 hF2
        have hR : RN c nm st87 sl88 := hR.fr hFst87
        rcases hw with ⟨n89, rfl, hf90, hf91, hT, hf92, hk93⟩ | ⟨n94, n95, rfl, hf96, hf97, hf98, hf99⟩
        · have hp9 := hT.2.2.2.2.2.2
          have hk1 := tkd_lt (B := B) (g := g) (m := m) (p := (tkx B g m (tkx B g m p)))
          have hk2 := tkx_le (B := B) (g := g) (m := m) (p := (tkx B g m (tkx B g m p))) hp9
          have hk3 := tka_le (B := B) (g := g) (m := m) (p := (tkx B g m (tkx B g m p))) hp9 hB.2.2.1
          have hk4 := tkv_lt (p := (tkx B g m (tkx B g m p))) hB hp9
          have hk5 := tkw_lt (B := B) (g := g) (m := m) (p := (tkx B g m (tkx B g m p)))
          refine va_calli (va_runV (As := [.int (nI (va + 1)), .int 1]) (rest := []) ⟨hx, hb, hml, hown, hts⟩ (f_keep1 l dC dI ar cy _ hN st87 sl88 (va + 1) B g m (tkx B g m (tkx B g m p)) n89 (by omega) hG.1 (MBt.fr hB hF) hT (by rw [hf91]) (by omega)) (cwV 2 hts gX12_readOfAll_X12_keep rfl rfl rfl (by decide +kernel) ⟨Nat.le_of_ble_eq_true rfl, Nat.le_of_ble_eq_true rfl⟩) ⟨fun a U g mk q => ⟨q.1, mPre.blind q.2⟩, va_recv hK hP (ci := 11) (q0 := 0) rfl rfl, fun U hU hW => ⟨rfl, mPre.of hP hK hU hW⟩⟩ rfl rfl hl.1 rfl (lv_room (Nat.le_of_ble_eq_true rfl)) dX12_readOfAll_97 ⟨Nat.le_of_ble_eq_true rfl, Nat.le_of_ble_eq_true rfl⟩) hS (fun q _ h => MA.le hS.1 q h) (MA.le hS.1) (fun r100 x t H locs ht hvm hw hB9 _ _ hS => ?_)
          have hP := mB.at ht hB9
          clear hB9 ht hvm
          obtain ⟨st101, sl102⟩ := x
          obtain ⟨hG2, hF2, hw⟩ := hw
          dsimp only at hG2 hF2 hw
          have hP : va_P (dC, dI) vwCl (mw ar cy st101 sl102) _ := hP
          have hG : MG [1, 2, 3, 6, 7, 8, 9, 10, 11, 12, 14, 15, 20, 21, 22] st st101 := hG.tr hG2 (by decide)
          have hFst101 : FM 7 st87 sl88 st101 sl102 := hF2
          have hF : FM 7 st sl st101 sl102 := hF.tr hFst101 (by omega) (by omega)
          clear hG2 hF2
          have hR : RN c nm st101 sl102 := hR.fr hFst101
          obtain ⟨rfl, hf103, hT, hk104⟩ := hw
          have hp9 := hT.2.2.2.2.2.2
          have hk1 := tkd_lt (B := B) (g := g) (m := m) (p := (tkx B g m (tkx B g m p)))
          have hk2 := tkx_le (B := B) (g := g) (m := m) (p := (tkx B g m (tkx B g m p))) hp9
          have hk3 := tka_le (B := B) (g := g) (m := m) (p := (tkx B g m (tkx B g m p))) hp9 hB.2.2.1
          have hk4 := tkv_lt (p := (tkx B g m (tkx B g m p))) hB hp9
          have hk5 := tkw_lt (B := B) (g := g) (m := m) (p := (tkx B g m (tkx B g m p)))
          exact W.zret (v := 1) hx hb hr rfl (fun t ht hW => ⟨⟨1, (st101, sl102), rfl, ⟨hG, hF, Or.inl (⟨(tkx B g m (tkx B g m p)), rfl, hT, (bOf_f (by omega)).trans hf92, by show st101 0 10 = st 0 10; rw [hk104, hk93, (hFst84 0 10 (by decide)).1, est82, up2_ne (r := 14) (k := va) (a := 0) (j := 10) _ _ (by omega)]⟩)⟩, mB.of ht hP⟩, hS.F ht⟩) hS.2.2 dX12_readOfAll_100
        · refine va_calli (va_runV (As := [.int (nI (va + 1)), .int 0]) (rest := []) ⟨hx, hb, hml, hown, hts⟩ (f_keep0 l dC dI ar cy _ hN st87 sl88 (va + 1) (by omega) hG.1 ) (cwV 2 hts gX12_readOfAll_X12_keep rfl rfl rfl (by decide +kernel) ⟨Nat.le_of_ble_eq_true rfl, Nat.le_of_ble_eq_true rfl⟩) ⟨fun a U g mk q => ⟨q.1, mPre.blind q.2⟩, va_recv hK hP (ci := 11) (q0 := 0) rfl rfl, fun U hU hW => ⟨rfl, mPre.of hP hK hU hW⟩⟩ rfl rfl hl.1 rfl (lv_room (Nat.le_of_ble_eq_true rfl)) dX12_readOfAll_97 ⟨Nat.le_of_ble_eq_true rfl, Nat.le_of_ble_eq_true rfl⟩) hS (fun q _ h => MA.le hS.1 q h) (MA.le hS.1) (fun r105 x t H locs ht hvm hw hB9 _ _ hS => ?_)
          have hP := mB.at ht hB9
          clear hB9 ht hvm
          obtain ⟨rfl, hw⟩ := hw
          have hP : va_P (dC, dI) vwCl (mw ar cy st87 sl88) _ := hP
          obtain rfl := hw
          exact W.zret (v := 0) hx hb hr rfl (fun t ht hW => ⟨⟨0, (st87, sl88), rfl, ⟨hG, hF, Or.inr (⟨n94, n95, rfl, by show st87 0 10 = _; rw [hf96], by show st87 0 11 = _; rw [hf97], hf98, (bOf_f (by omega)).trans hf99⟩)⟩, mB.of ht hP⟩, hS.F ht⟩) hS.2.2 dX12_readOfAll_100
      · refine lv_if_eq (tgt := 101) hx hb dX12_readOfAll_75 (by decide) (fun _ => ?_) (fun cc => absurd (by decide) cc)
        refine lv_aload_n hx hb dX12_readOfAll_101 rfl (lv_at hl 1 rfl) ?_
        refine lv_iconst (v := 5) hx hb dX12_readOfAll_102 (by decide) ?_
        refine va_calli (va_runV (As := [.int 5]) (rest := []) ⟨hx, hb, hml, hown, hts⟩ (f_isWord5 l dC dI ar cy _ hN st sl B g m p hG.1 (MBt.fr hB hF) hT) (cwV 1 hts gX12_readOfAll_X12_isWord rfl rfl rfl (by decide +kernel) ⟨Nat.le_of_ble_eq_true rfl, Nat.le_of_ble_eq_true rfl⟩) ⟨fun a U g mk q => ⟨q.1, mPre.blind q.2⟩, va_recv hK hP (ci := 11) (q0 := 0) rfl rfl, fun U hU hW => ⟨rfl, mPre.of hP hK hU hW⟩⟩ rfl rfl hl.1 rfl (lv_room (Nat.le_of_ble_eq_true rfl)) dX12_readOfAll_103 ⟨Nat.le_of_ble_eq_true rfl, Nat.le_of_ble_eq_true rfl⟩) hS (fun q _ h => MA.le hS.1 q h) (MA.le hS.1) (fun r106 x t H locs ht hvm hw hB9 _ _ hS => ?_)
        have hP := mB.at ht hB9
        clear hB9 ht hvm
        obtain ⟨rfl, hw⟩ := hw
        have hP : va_P (dC, dI) vwCl (mw ar cy st sl) _ := hP
        rcases hw with ⟨rfl, hf107⟩ | ⟨rfl, hf108⟩
        · refine lv_istore_n (lv' := [(3, .int 1), (2, .int 0), (0, .ref (ar 0)), (1, .int (nI va))]) hx hb dX12_readOfAll_106 rfl hl (by decide) rfl (fun ls hl => ?_)
          refine lv_aload_n hx hb dX12_readOfAll_107 rfl (lv_at hl 2 rfl) ?_
          refine va_get (D := (dC, dI)) (ci := 11) (v := .ref (ar 14)) (C := RX12) (T := TX12) (N := 47) hx hb hts ii_X12_readOfAll hown hK hP 0 rfl rfl 38 (by decide) (hts _ mm_X12_readOfAll_1) (fun _ hh => hh) rfl dX12_readOfAll_108 ?_
          refine lv_iload_n hx hb dX12_readOfAll_111 rfl (lv_at hl 3 rfl) ?_
          refine lv_iload_n hx hb dX12_readOfAll_112 rfl (lv_at hl 0 rfl) ?_
          refine lv_if_eq (tgt := 120) hx hb dX12_readOfAll_113 (by decide) (fun cc => absurd cc (by decide)) (fun _ => ?_)
          refine lv_iconst (v := 2) hx hb dX12_readOfAll_116 (by decide) ?_
          refine lv_goto (tgt := 122) hx hb dX12_readOfAll_117 (by decide) ?_
          refine va_iast hx hb hK hP (mD hN _ _ _ _) hS 14 13 rfl rfl (i := (nI va)) (vp_in_nI (by omega) (by decide)) dX12_readOfAll_122 (fun H locs hP _ hS => ?_)
          rw [nI_clamp (by omega)] at hP
          have hP : va_P (dC, dI) vwCl (mw ar cy (up2 st 14 va 2) sl) H := hP
          obtain ⟨st109, est109⟩ : ∃ y, y = up2 st 14 va 2 := ⟨_, rfl⟩
          have hG : MG [1, 2, 3, 6, 7, 8, 9, 10, 11, 12, 14, 15, 20, 21, 22] st st109 := by rw [est109]; exact hG.up (rz (mr_14_0_196 va (by omega) (by omega))) (pn (pcl_14_0_196 va (by omega) (by omega)) (by decide))
          rw [← est109] at hP
          have hF : FM 7 st sl st109 sl := by rw [est109]; exact hF.up (dm_ln _)
          have hT : TM B g m p st109 sl := by rw [est109]; exact hT.up (by omega)
          have hR : RN c nm st109 sl := by rw [est109]; exact hR.up (by omega)
          refine lv_aload_n hx hb dX12_readOfAll_123 rfl (lv_at hl 2 rfl) ?_
          refine va_callv (va_runV (As := []) (rest := []) ⟨hx, hb, hml, hown, hts⟩ (f_go l dC dI ar cy _ hN st109 sl B g m (tkx B g m p) hG.1 (MBt.fr hB hF) hT.1 hk2.2) (cwV 0 hts gX12_readOfAll_X12_go rfl rfl rfl (by decide +kernel) ⟨Nat.le_of_ble_eq_true rfl, Nat.le_of_ble_eq_true rfl⟩) ⟨fun a U g mk q => ⟨q.1, mPre.blind q.2⟩, va_recv hK hP (ci := 11) (q0 := 0) rfl rfl, fun U hU hW => ⟨rfl, mPre.of hP hK hU hW⟩⟩ rfl rfl hl.1 rfl (lv_room (Nat.le_of_ble_eq_true rfl)) dX12_readOfAll_124 ⟨Nat.le_of_ble_eq_true rfl, Nat.le_of_ble_eq_true rfl⟩) hS (fun q _ h => MA.le hS.1 q h) (MA.le hS.1) (fun x t H locs ht hvm hw hB9 _ _ hS => ?_)
          have hP := mB.at ht hB9
          clear hB9 ht hvm
          obtain ⟨st111, sl112⟩ := x
          obtain ⟨hG2, hF2, hw⟩ := hw
          dsimp only at hG2 hF2 hw
          have hP : va_P (dC, dI) vwCl (mw ar cy st111 sl112) _ := hP
          have hG : MG [1, 2, 3, 6, 7, 8, 9, 10, 11, 12, 14, 15, 20, 21, 22] st st111 := hG.tr hG2 (by decide)
          have hFst111 : FM 1 st109 sl st111 sl112 := hF2
          have hF : FM 7 st sl st111 sl112 := hF.tr hFst111 (by omega) (by omega)
          clear hG2 hF2
          have hR : RN c nm st111 sl112 := hR.fr hFst111
          have hT := hw
          have hp9 := hT.2.2.2.2.2.2
          have hk1 := tkd_lt (B := B) (g := g) (m := m) (p := (tkx B g m p))
          have hk2 := tkx_le (B := B) (g := g) (m := m) (p := (tkx B g m p)) hp9
          have hk3 := tka_le (B := B) (g := g) (m := m) (p := (tkx B g m p)) hp9 hB.2.2.1
          have hk4 := tkv_lt (p := (tkx B g m p)) hB hp9
          have hk5 := tkw_lt (B := B) (g := g) (m := m) (p := (tkx B g m p))
          refine lv_aload_n hx hb dX12_readOfAll_127 rfl (lv_at hl 2 rfl) ?_
          refine lv_iload_n hx hb dX12_readOfAll_128 rfl (lv_at hl 3 rfl) ?_
          refine lv_iconst (v := 1) hx hb dX12_readOfAll_129 (by decide) ?_
          refine lv_iadd hx hb dX12_readOfAll_130 ?_
          refine zz_top (v := nI (va + 1)) (nI_add va 1) ?_
          refine lv_aload_n hx hb dX12_readOfAll_131 rfl (lv_at hl 2 rfl) ?_
          refine lv_iload_n hx hb dX12_readOfAll_132 rfl (lv_at hl 0 rfl) ?_
          refine lv_if_eq (tgt := 140) hx hb dX12_readOfAll_133 (by decide) (fun cc => absurd cc (by decide)) (fun _ => ?_)
          refine lv_iconst (v := 0) hx hb dX12_readOfAll_136 (by decide) ?_
          refine lv_goto (tgt := 141) hx hb dX12_readOfAll_137 (by decide) ?_
          refine lv_iload_n hx hb dX12_readOfAll_141 rfl (lv_at hl 0 rfl) ?_
          refine lv_if_eq (tgt := 150) hx hb dX12_readOfAll_142 (by decide) (fun cc => absurd cc (by decide)) (fun _ => ?_)
          refine lv_bipush (v := 12) hx hb dX12_readOfAll_145 (by decide) ?_
          refine lv_goto (tgt := 152) hx hb dX12_readOfAll_147 (by decide) ?_
          refine va_calli (va_runV (As := [.int 0, .int 12]) (rest := [.int (nI (va + 1)), .ref (ar 0)]) ⟨hx, hb, hml, hown, hts⟩ (f_readNumber l dC dI ar cy _ hN st111 sl112 0 12 B g m (tkx B g m p) (by omega) (by omega) hG.1 (MBt.fr hB hF) hT) (cwV 2 hts gX12_readOfAll_X12_readNumber rfl rfl rfl (by decide +kernel) ⟨Nat.le_of_ble_eq_true rfl, Nat.le_of_ble_eq_true rfl⟩) ⟨fun a U g mk q => ⟨q.1, mPre.blind q.2⟩, va_recv hK hP (ci := 11) (q0 := 0) rfl rfl, fun U hU hW => ⟨rfl, mPre.of hP hK hU hW⟩⟩ rfl rfl hl.1 rfl (lv_room (Nat.le_of_ble_eq_true rfl)) dX12_readOfAll_152 ⟨Nat.le_of_ble_eq_true rfl, Nat.le_of_ble_eq_true rfl⟩) hS (fun q _ h => MA.le hS.1 q h) (MA.le hS.1) (fun r113 x t H locs ht hvm hw hB9 _ _ hS => ?_)
          have hP := mB.at ht hB9
          clear hB9 ht hvm
          obtain ⟨st114, sl115⟩ := x
          obtain ⟨hG2, hF2, hw⟩ := hw
          dsimp only at hG2 hF2 hw
          have hP : va_P (dC, dI) vwCl (mw ar cy st114 sl115) _ := hP
          have hG : MG [1, 2, 3, 6, 7, 8, 9, 10, 11, 12, 14, 15, 20, 21, 22] st st114 := hG.tr hG2 (by decide)
          have hFst114 : FM 2 st111 sl112 st114 sl115 := hF2
          have hF : FM 7 st sl st114 sl115 := hF.tr hFst114 (by omega) (by omega)
          clear hG2 hF2
          have hR : RN c nm st114 sl115 := hR.fr hFst114
          rcases hw with ⟨rfl, hf116, hf117, hf118, hf119, hT, hf120, hk121⟩ | ⟨n122, n123, rfl, hf124, hf125, hf126, hf127⟩
          · have hp9 := hT.2.2.2.2.2.2
            have hk1 := tkd_lt (B := B) (g := g) (m := m) (p := (tkx B g m (tkx B g m p)))
            have hk2 := tkx_le (B := B) (g := g) (m := m) (p := (tkx B g m (tkx B g m p))) hp9
            have hk3 := tka_le (B := B) (g := g) (m := m) (p := (tkx B g m (tkx B g m p))) hp9 hB.2.2.1
            have hk4 := tkv_lt (p := (tkx B g m (tkx B g m p))) hB hp9
            have hk5 := tkw_lt (B := B) (g := g) (m := m) (p := (tkx B g m (tkx B g m p)))
            refine va_calli (va_runV (As := [.int (nI (va + 1)), .int 1]) (rest := []) ⟨hx, hb, hml, hown, hts⟩ (f_keep1 l dC dI ar cy _ hN st114 sl115 (va + 1) B g m (tkx B g m (tkx B g m p)) (tkv B g (tkx B g m p)) (by omega) hG.1 (MBt.fr hB hF) hT (by rw [hf119]) (by omega)) (cwV 2 hts gX12_readOfAll_X12_keep rfl rfl rfl (by decide +kernel) ⟨Nat.le_of_ble_eq_true rfl, Nat.le_of_ble_eq_true rfl⟩) ⟨fun a U g mk q => ⟨q.1, mPre.blind q.2⟩, va_recv hK hP (ci := 11) (q0 := 0) rfl rfl, fun U hU hW => ⟨rfl, mPre.of hP hK hU hW⟩⟩ rfl rfl hl.1 rfl (lv_room (Nat.le_of_ble_eq_true rfl)) dX12_readOfAll_155 ⟨Nat.le_of_ble_eq_true rfl, Nat.le_of_ble_eq_true rfl⟩) hS (fun q _ h => MA.le hS.1 q h) (MA.le hS.1) (fun r128 x t H locs ht hvm hw hB9 _ _ hS => ?_)
            have hP := mB.at ht hB9
            clear hB9 ht hvm
            obtain ⟨st129, sl130⟩ := x
            obtain ⟨hG2, hF2, hw⟩ := hw
            dsimp only at hG2 hF2 hw
            have hP : va_P (dC, dI) vwCl (mw ar cy st129 sl130) _ := hP
            have hG : MG [1, 2, 3, 6, 7, 8, 9, 10, 11, 12, 14, 15, 20, 21, 22] st st129 := hG.tr hG2 (by decide)
            have hFst129 : FM 7 st114 sl115 st129 sl130 := hF2
            have hF : FM 7 st sl st129 sl130 := hF.tr hFst129 (by omega) (by omega)
            clear hG2 hF2
            have hR : RN c nm st129 sl130 := hR.fr hFst129
            obtain ⟨rfl, hf131, hT, hk132⟩ := hw
            have hp9 := hT.2.2.2.2.2.2
            have hk1 := tkd_lt (B := B) (g := g) (m := m) (p := (tkx B g m (tkx B g m p)))
            have hk2 := tkx_le (B := B) (g := g) (m := m) (p := (tkx B g m (tkx B g m p))) hp9
            have hk3 := tka_le (B := B) (g := g) (m := m) (p := (tkx B g m (tkx B g m p))) hp9 hB.2.2.1
            have hk4 := tkv_lt (p := (tkx B g m (tkx B g m p))) hB hp9
            have hk5 := tkw_lt (B := B) (g := g) (m := m) (p := (tkx B g m (tkx B g m p)))
            exact W.zret (v := 1) hx hb hr rfl (fun t ht hW => ⟨⟨1, (st129, sl130), rfl, ⟨hG, hF, Or.inl (⟨(tkx B g m (tkx B g m p)), rfl, hT, (bOf_s (by omega)).trans (sOf_y (hf120 _)), by show st129 0 10 = st 0 10; rw [hk132, hk121, (hFst111 0 10 (by decide)).1, est109, up2_ne (r := 14) (k := va) (a := 0) (j := 10) _ _ (by omega)]⟩)⟩, mB.of ht hP⟩, hS.F ht⟩) hS.2.2 dX12_readOfAll_158
          · refine va_calli (va_runV (As := [.int (nI (va + 1)), .int 0]) (rest := []) ⟨hx, hb, hml, hown, hts⟩ (f_keep0 l dC dI ar cy _ hN st114 sl115 (va + 1) (by omega) hG.1 ) (cwV 2 hts gX12_readOfAll_X12_keep rfl rfl rfl (by decide +kernel) ⟨Nat.le_of_ble_eq_true rfl, Nat.le_of_ble_eq_true rfl⟩) ⟨fun a U g mk q => ⟨q.1, mPre.blind q.2⟩, va_recv hK hP (ci := 11) (q0 := 0) rfl rfl, fun U hU hW => ⟨rfl, mPre.of hP hK hU hW⟩⟩ rfl rfl hl.1 rfl (lv_room (Nat.le_of_ble_eq_true rfl)) dX12_readOfAll_155 ⟨Nat.le_of_ble_eq_true rfl, Nat.le_of_ble_eq_true rfl⟩) hS (fun q _ h => MA.le hS.1 q h) (MA.le hS.1) (fun r133 x t H locs ht hvm hw hB9 _ _ hS => ?_)
            have hP := mB.at ht hB9
            clear hB9 ht hvm
            obtain ⟨rfl, hw⟩ := hw
            have hP : va_P (dC, dI) vwCl (mw ar cy st114 sl115) _ := hP
            obtain rfl := hw
            exact W.zret (v := 0) hx hb hr rfl (fun t ht hW => ⟨⟨0, (st114, sl115), rfl, ⟨hG, hF, Or.inr (⟨n122, n123, rfl, by show st114 0 10 = _; rw [hf124], by show st114 0 11 = _; rw [hf125], hf126, (bOf_s (by omega)).trans (sOf_f (hf127 _) hf126)⟩)⟩, mB.of ht hP⟩, hS.F ht⟩) hS.2.2 dX12_readOfAll_158
        · refine lv_istore_n (lv' := [(3, .int 0), (2, .int 0), (0, .ref (ar 0)), (1, .int (nI va))]) hx hb dX12_readOfAll_106 rfl hl (by decide) rfl (fun ls hl => ?_)
          refine lv_aload_n hx hb dX12_readOfAll_107 rfl (lv_at hl 2 rfl) ?_
          refine va_get (D := (dC, dI)) (ci := 11) (v := .ref (ar 14)) (C := RX12) (T := TX12) (N := 47) hx hb hts ii_X12_readOfAll hown hK hP 0 rfl rfl 38 (by decide) (hts _ mm_X12_readOfAll_1) (fun _ hh => hh) rfl dX12_readOfAll_108 ?_
          refine lv_iload_n hx hb dX12_readOfAll_111 rfl (lv_at hl 3 rfl) ?_
          refine lv_iload_n hx hb dX12_readOfAll_112 rfl (lv_at hl 0 rfl) ?_
          refine lv_if_eq (tgt := 120) hx hb dX12_readOfAll_113 (by decide) (fun _ => ?_) (fun cc => absurd (by decide) cc)
          refine lv_bipush (v := 6) hx hb dX12_readOfAll_120 (by decide) ?_
          refine va_iast hx hb hK hP (mD hN _ _ _ _) hS 14 13 rfl rfl (i := (nI va)) (vp_in_nI (by omega) (by decide)) dX12_readOfAll_122 (fun H locs hP _ hS => ?_)
          rw [nI_clamp (by omega)] at hP
          have hP : va_P (dC, dI) vwCl (mw ar cy (up2 st 14 va 6) sl) H := hP
          obtain ⟨st134, est134⟩ : ∃ y, y = up2 st 14 va 6 := ⟨_, rfl⟩
          have hG : MG [1, 2, 3, 6, 7, 8, 9, 10, 11, 12, 14, 15, 20, 21, 22] st st134 := by rw [est134]; exact hG.up (rz (mr_14_0_196 va (by omega) (by omega))) (pn (pcl_14_0_196 va (by omega) (by omega)) (by decide))
          rw [← est134] at hP
          have hF : FM 7 st sl st134 sl := by rw [est134]; exact hF.up (dm_ln _)
          have hT : TM B g m p st134 sl := by rw [est134]; exact hT.up (by omega)
          have hR : RN c nm st134 sl := by rw [est134]; exact hR.up (by omega)
          refine lv_aload_n hx hb dX12_readOfAll_123 rfl (lv_at hl 2 rfl) ?_
          refine va_callv (va_runV (As := []) (rest := []) ⟨hx, hb, hml, hown, hts⟩ (f_go l dC dI ar cy _ hN st134 sl B g m (tkx B g m p) hG.1 (MBt.fr hB hF) hT.1 hk2.2) (cwV 0 hts gX12_readOfAll_X12_go rfl rfl rfl (by decide +kernel) ⟨Nat.le_of_ble_eq_true rfl, Nat.le_of_ble_eq_true rfl⟩) ⟨fun a U g mk q => ⟨q.1, mPre.blind q.2⟩, va_recv hK hP (ci := 11) (q0 := 0) rfl rfl, fun U hU hW => ⟨rfl, mPre.of hP hK hU hW⟩⟩ rfl rfl hl.1 rfl (lv_room (Nat.le_of_ble_eq_true rfl)) dX12_readOfAll_124 ⟨Nat.le_of_ble_eq_true rfl, Nat.le_of_ble_eq_true rfl⟩) hS (fun q _ h => MA.le hS.1 q h) (MA.le hS.1) (fun x t H locs ht hvm hw hB9 _ _ hS => ?_)
          have hP := mB.at ht hB9
          clear hB9 ht hvm
          obtain ⟨st136, sl137⟩ := x
          obtain ⟨hG2, hF2, hw⟩ := hw
          dsimp only at hG2 hF2 hw
          have hP : va_P (dC, dI) vwCl (mw ar cy st136 sl137) _ := hP
          have hG : MG [1, 2, 3, 6, 7, 8, 9, 10, 11, 12, 14, 15, 20, 21, 22] st st136 := hG.tr hG2 (by decide)
          have hFst136 : FM 1 st134 sl st136 sl137 := hF2
          have hF : FM 7 st sl st136 sl137 := hF.tr hFst136 (by omega) (by omega)
          clear hG2 hF2
          have hR : RN c nm st136 sl137 := hR.fr hFst136
          have hT := hw
          have hp9 := hT.2.2.2.2.2.2
          have hk1 := tkd_lt (B := B) (g := g) (m := m) (p := (tkx B g m p))
          have hk2 := tkx_le (B := B) (g := g) (m := m) (p := (tkx B g m p)) hp9
          have hk3 := tka_le (B := B) (g := g) (m := m) (p := (tkx B g m p)) hp9 hB.2.2.1
          have hk4 := tkv_lt (p := (tkx B g m p)) hB hp9
          have hk5 := tkw_lt (B := B) (g := g) (m := m) (p := (tkx B g m p))
          refine lv_aload_n hx hb dX12_readOfAll_127 rfl (lv_at hl 2 rfl) ?_
          refine lv_iload_n hx hb dX12_readOfAll_128 rfl (lv_at hl 3 rfl) ?_
          refine lv_iconst (v := 1) hx hb dX12_readOfAll_129 (by decide) ?_
          refine lv_iadd hx hb dX12_readOfAll_130 ?_
          refine zz_top (v := nI (va + 1)) (nI_add va 1) ?_
          refine lv_aload_n hx hb dX12_readOfAll_131 rfl (lv_at hl 2 rfl) ?_
          refine lv_iload_n hx hb dX12_readOfAll_132 rfl (lv_at hl 0 rfl) ?_
          refine lv_if_eq (tgt := 140) hx hb dX12_readOfAll_133 (by decide) (fun _ => ?_) (fun cc => absurd (by decide) cc)
          refine lv_iconst (v := 1) hx hb dX12_readOfAll_140 (by decide) ?_
          refine lv_iload_n hx hb dX12_readOfAll_141 rfl (lv_at hl 0 rfl) ?_
          refine lv_if_eq (tgt := 150) hx hb dX12_readOfAll_142 (by decide) (fun _ => ?_) (fun cc => absurd (by decide) cc)
          refine lv_bipush (v := 30) hx hb dX12_readOfAll_150 (by decide) ?_
          refine va_calli (va_runV (As := [.int 1, .int 30]) (rest := [.int (nI (va + 1)), .ref (ar 0)]) ⟨hx, hb, hml, hown, hts⟩ (f_readNumber l dC dI ar cy _ hN st136 sl137 1 30 B g m (tkx B g m p) (by omega) (by omega) hG.1 (MBt.fr hB hF) hT) (cwV 2 hts gX12_readOfAll_X12_readNumber rfl rfl rfl (by decide +kernel) ⟨Nat.le_of_ble_eq_true rfl, Nat.le_of_ble_eq_true rfl⟩) ⟨fun a U g mk q => ⟨q.1, mPre.blind q.2⟩, va_recv hK hP (ci := 11) (q0 := 0) rfl rfl, fun U hU hW => ⟨rfl, mPre.of hP hK hU hW⟩⟩ rfl rfl hl.1 rfl (lv_room (Nat.le_of_ble_eq_true rfl)) dX12_readOfAll_152 ⟨Nat.le_of_ble_eq_true rfl, Nat.le_of_ble_eq_true rfl⟩) hS (fun q _ h => MA.le hS.1 q h) (MA.le hS.1) (fun r138 x t H locs ht hvm hw hB9 _ _ hS => ?_)
          have hP := mB.at ht hB9
          clear hB9 ht hvm
          obtain ⟨st139, sl140⟩ := x
          obtain ⟨hG2, hF2, hw⟩ := hw
          dsimp only at hG2 hF2 hw
          have hP : va_P (dC, dI) vwCl (mw ar cy st139 sl140) _ := hP
          have hG : MG [1, 2, 3, 6, 7, 8, 9, 10, 11, 12, 14, 15, 20, 21, 22] st st139 := hG.tr hG2 (by decide)
          have hFst139 : FM 2 st136 sl137 st139 sl140 := hF2
          have hF : FM 7 st sl st139 sl140 := hF.tr hFst139 (by omega) (by omega)
          clear hG2 hF2
          have hR : RN c nm st139 sl140 := hR.fr hFst139
          rcases hw with ⟨rfl, hf141, hf142, hf143, hf144, hT, hf145, hk146⟩ | ⟨n147, n148, rfl, hf149, hf150, hf151, hf152⟩
          · have hp9 := hT.2.2.2.2.2.2
            have hk1 := tkd_lt (B := B) (g := g) (m := m) (p := (tkx B g m (tkx B g m p)))
            have hk2 := tkx_le (B := B) (g := g) (m := m) (p := (tkx B g m (tkx B g m p))) hp9
            have hk3 := tka_le (B := B) (g := g) (m := m) (p := (tkx B g m (tkx B g m p))) hp9 hB.2.2.1
            have hk4 := tkv_lt (p := (tkx B g m (tkx B g m p))) hB hp9
            have hk5 := tkw_lt (B := B) (g := g) (m := m) (p := (tkx B g m (tkx B g m p)))
            refine va_calli (va_runV (As := [.int (nI (va + 1)), .int 1]) (rest := []) ⟨hx, hb, hml, hown, hts⟩ (f_keep1 l dC dI ar cy _ hN st139 sl140 (va + 1) B g m (tkx B g m (tkx B g m p)) (tkv B g (tkx B g m p)) (by omega) hG.1 (MBt.fr hB hF) hT (by rw [hf144]) (by omega)) (cwV 2 hts gX12_readOfAll_X12_keep rfl rfl rfl (by decide +kernel) ⟨Nat.le_of_ble_eq_true rfl, Nat.le_of_ble_eq_true rfl⟩) ⟨fun a U g mk q => ⟨q.1, mPre.blind q.2⟩, va_recv hK hP (ci := 11) (q0 := 0) rfl rfl, fun U hU hW => ⟨rfl, mPre.of hP hK hU hW⟩⟩ rfl rfl hl.1 rfl (lv_room (Nat.le_of_ble_eq_true rfl)) dX12_readOfAll_155 ⟨Nat.le_of_ble_eq_true rfl, Nat.le_of_ble_eq_true rfl⟩) hS (fun q _ h => MA.le hS.1 q h) (MA.le hS.1) (fun r153 x t H locs ht hvm hw hB9 _ _ hS => ?_)
            have hP := mB.at ht hB9
            clear hB9 ht hvm
            obtain ⟨st154, sl155⟩ := x
            obtain ⟨hG2, hF2, hw⟩ := hw
            dsimp only at hG2 hF2 hw
            have hP : va_P (dC, dI) vwCl (mw ar cy st154 sl155) _ := hP
            have hG : MG [1, 2, 3, 6, 7, 8, 9, 10, 11, 12, 14, 15, 20, 21, 22] st st154 := hG.tr hG2 (by decide)
            have hFst154 : FM 7 st139 sl140 st154 sl155 := hF2
            have hF : FM 7 st sl st154 sl155 := hF.tr hFst154 (by omega) (by omega)
            clear hG2 hF2
            have hR : RN c nm st154 sl155 := hR.fr hFst154
            obtain ⟨rfl, hf156, hT, hk157⟩ := hw
            have hp9 := hT.2.2.2.2.2.2
            have hk1 := tkd_lt (B := B) (g := g) (m := m) (p := (tkx B g m (tkx B g m p)))
            have hk2 := tkx_le (B := B) (g := g) (m := m) (p := (tkx B g m (tkx B g m p))) hp9
            have hk3 := tka_le (B := B) (g := g) (m := m) (p := (tkx B g m (tkx B g m p))) hp9 hB.2.2.1
            have hk4 := tkv_lt (p := (tkx B g m (tkx B g m p))) hB hp9
            have hk5 := tkw_lt (B := B) (g := g) (m := m) (p := (tkx B g m (tkx B g m p)))
            exact W.zret (v := 1) hx hb hr rfl (fun t ht hW => ⟨⟨1, (st154, sl155), rfl, ⟨hG, hF, Or.inl (⟨(tkx B g m (tkx B g m p)), rfl, hT, (bOf_d (by omega)).trans (sOf_y (hf145 _)), by show st154 0 10 = st 0 10; rw [hk157, hk146, (hFst136 0 10 (by decide)).1, est134, up2_ne (r := 14) (k := va) (a := 0) (j := 10) _ _ (by omega)]⟩)⟩, mB.of ht hP⟩, hS.F ht⟩) hS.2.2 dX12_readOfAll_158
          · refine va_calli (va_runV (As := [.int (nI (va + 1)), .int 0]) (rest := []) ⟨hx, hb, hml, hown, hts⟩ (f_keep0 l dC dI ar cy _ hN st139 sl140 (va + 1) (by omega) hG.1 ) (cwV 2 hts gX12_readOfAll_X12_keep rfl rfl rfl (by decide +kernel) ⟨Nat.le_of_ble_eq_true rfl, Nat.le_of_ble_eq_true rfl⟩) ⟨fun a U g mk q => ⟨q.1, mPre.blind q.2⟩, va_recv hK hP (ci := 11) (q0 := 0) rfl rfl, fun U hU hW => ⟨rfl, mPre.of hP hK hU hW⟩⟩ rfl rfl hl.1 rfl (lv_room (Nat.le_of_ble_eq_true rfl)) dX12_readOfAll_155 ⟨Nat.le_of_ble_eq_true rfl, Nat.le_of_ble_eq_true rfl⟩) hS (fun q _ h => MA.le hS.1 q h) (MA.le hS.1) (fun r158 x t H locs ht hvm hw hB9 _ _ hS => ?_)
            have hP := mB.at ht hB9
            clear hB9 ht hvm
            obtain ⟨rfl, hw⟩ := hw
            have hP : va_P (dC, dI) vwCl (mw ar cy st139 sl140) _ := hP
            obtain rfl := hw
            exact W.zret (v := 0) hx hb hr rfl (fun t ht hW => ⟨⟨0, (st139, sl140), rfl, ⟨hG, hF, Or.inr (⟨n147, n148, rfl, by show st139 0 10 = _; rw [hf149], by show st139 0 11 = _; rw [hf150], hf151, (bOf_d (by omega)).trans (sOf_f (hf152 _) hf151)⟩)⟩, mB.of ht hP⟩, hS.F ht⟩) hS.2.2 dX12_readOfAll_158
