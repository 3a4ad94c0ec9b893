set_option maxHeartbeats 4000000 in
set_option maxRecDepth 100000 in
theorem f_readDogDoes (l : Launch) (dC : Nat → ClassId) (dI : Nat → Nat → Nat) (ar : Nat → Nat) (cy : Nat → ClassId) (sz : Nat) (hN : MN ar) (st : Nat → Nat → Int32) (sl : Nat → Nat → Int64) (va : Nat) (B : Nat → Nat) (g m : Nat) (p : Nat) (c : Nat → Nat) (nm : Nat → Nat → Nat) (hva : va < 196) (hI : MI st) (hB : MBt B g m st) (hT : TM B g m p st sl) (hR : RN c nm st sl) : Met l yX12_readDogDoes wsX12_readDogDoes ({ frames := 3, cells := 0, slots := 0, locals := 69 }) (va_Pc [.ref (ar 0), .int (nI va)] (mPre dC dI ar cy sz st sl)) (va_Qi (fun (r : Int32) (x : MT) => MG [1, 2, 3, 6, 7, 8, 9, 10, 11, 12, 14, 15, 20, 21, 22] st x.1 ∧ FM 7 st sl x.1 x.2 ∧ ((∃ q : Nat, r = 1 ∧ TM B g m q x.1 x.2 ∧ bDg B g m p = (0, q, 0) ∧ x.1 0 10 = st 0 10) ∨ (∃ f : Nat, ∃ a : Nat, r = 0 ∧ x.1 0 10 = nI f ∧ x.1 0 11 = nI a ∧ 1 ≤ f ∧ bDg B g m p = sf f a))) (mB dC dI ar cy) (MA ar sz)) 0 0 (MA ar sz) := by
  refine Met.ofW (cc := cX12_readDogDoes) (maxL := 2) (ret := (some .boolean)) (by decide) rfl ?_
  intro p9 e s m9 args below meth c9 s₁ B9 hml hv
  obtain ⟨rfl, hsz, hP, hK⟩ := hv
  have hx := B9.exec
  have hb := B9.bytes
  have hr := B9.returns
  have hts := atoms_spec (ws := wsX12_readDogDoes) B9.pre
  have hown : s.vm.findClass RX12 = some m9.cls := findClass_of_methodNamed B9.named
  subst hsz
  have hS : va_S (MA ar s.heap.size) s.heap s.heap [] := va_S.rf
  have hG : MG [1, 2, 3, 6, 7, 8, 9, 10, 11, 12, 14, 15, 20, 21, 22] st st := MG.rf hI
  have hl := lv_entry ([.ref (ar 0), .int (nI va)]) (n := 2) (Nat.le_of_ble_eq_true rfl)
  rw [lg_entry_eq]
  generalize (lg_sl ([.ref (ar 0), .int (nI va)]) ++ List.replicate (2 - (lg_sl ([.ref (ar 0), .int (nI va)])).length) Slot.unset).toArray = ls at hl ⊢
  have hl : lv_has ls 2 [(0, .ref (ar 0)), (1, .int (nI va))] := hl
  clear hI
  have hB1 := hB.2.2.1
  have hB2 := hB.2.2.2.1
  have hF : FM 7 st sl st sl := FM.rf
  have hp9 := hT.2.2.2.2.2.2
  have hk1 := tkd_lt (B := B) (g := g) (m := m) (p := p)
  have hk2 := tkx_le (B := B) (g := g) (m := m) (p := p) hp9
  have hk3 := tka_le (B := B) (g := g) (m := m) (p := p) hp9 hB.2.2.1
  have hk4 := tkv_lt (p := p) hB hp9
  have hk5 := tkw_lt (B := B) (g := g) (m := m) (p := p)
  have hR9 := hR.2.1
  refine lv_aload_n hx hb dX12_readDogDoes_0 rfl (lv_at hl 0 rfl) ?_
  refine lv_bipush (v := 9) hx hb dX12_readDogDoes_1 (by decide) ?_
  refine va_calli (va_runV (As := [.int 9]) (rest := []) ⟨hx, hb, hml, hown, hts⟩ (f_isWord9 l dC dI ar cy _ hN st sl B g m p hG.1 (MBt.fr hB hF) hT) (cwV 1 hts gX12_readDogDoes_X12_isWord rfl rfl rfl (by decide +kernel) ⟨Nat.le_of_ble_eq_true rfl, Nat.le_of_ble_eq_true rfl⟩) ⟨fun a U g mk q => ⟨q.1, mPre.blind q.2⟩, va_recv hK hP (ci := 11) (q0 := 0) rfl rfl, fun U hU hW => ⟨rfl, mPre.of hP hK hU hW⟩⟩ rfl rfl hl.1 rfl (lv_room (Nat.le_of_ble_eq_true rfl)) dX12_readDogDoes_3 ⟨Nat.le_of_ble_eq_true rfl, Nat.le_of_ble_eq_true rfl⟩) hS (fun q _ h => MA.le hS.1 q h) (MA.le hS.1) (fun r1 x t H locs ht hvm hw hB9 _ _ hS => ?_)
  have hP := mB.at ht hB9
  clear hB9 ht hvm
  obtain ⟨rfl, hw⟩ := hw
  have hP : va_P (dC, dI) vwCl (mw ar cy st sl) _ := hP
  rcases hw with ⟨rfl, hf2⟩ | ⟨rfl, hf3⟩
  · refine lv_if_ne (tgt := 24) hx hb dX12_readDogDoes_6 (by decide) (fun _ => ?_) (fun cc => absurd cc (by decide))
    refine lv_aload_n hx hb dX12_readDogDoes_24 rfl (lv_at hl 0 rfl) ?_
    refine va_get (D := (dC, dI)) (ci := 11) (v := .ref (ar 14)) (C := RX12) (T := TX12) (N := 47) hx hb hts ii_X12_readDogDoes hown hK hP 0 rfl rfl 38 (by decide) (hts _ mm_X12_readDogDoes_1) (fun _ hh => hh) rfl dX12_readDogDoes_25 ?_
    refine lv_iload_n hx hb dX12_readDogDoes_28 rfl (lv_at hl 1 rfl) ?_
    refine lv_iconst (v := 3) hx hb dX12_readDogDoes_29 (by decide) ?_
    refine va_iast hx hb hK hP (mD hN _ _ _ _) hS 14 13 rfl rfl (i := (nI va)) (vp_in_nI (by omega) (by decide)) dX12_readDogDoes_30 (fun H locs hP _ hS => ?_)
    rw [nI_clamp (by omega)] at hP
    have hP : va_P (dC, dI) vwCl (mw ar cy (up2 st 14 va 3) sl) H := hP
    obtain ⟨st4, est4⟩ : ∃ y, y = up2 st 14 va 3 := ⟨_, rfl⟩
    have hG : MG [1, 2, 3, 6, 7, 8, 9, 10, 11, 12, 14, 15, 20, 21, 22] st st4 := by rw [est4]; exact hG.up (rz (mr_14_0_196 va (by omega) (by omega))) (pn (pcl_14_0_196 va (by omega) (by omega)) (by decide))
    rw [← est4] at hP
    have hF : FM 7 st sl st4 sl := by rw [est4]; exact hF.up (dm_ln _)
    have hT : TM B g m p st4 sl := by rw [est4]; exact hT.up (by omega)
    have hR : RN c nm st4 sl := by rw [est4]; exact hR.up (by omega)
    refine lv_aload_n hx hb dX12_readDogDoes_31 rfl (lv_at hl 0 rfl) ?_
    refine va_get (D := (dC, dI)) (ci := 11) (v := .ref (ar 14)) (C := RX12) (T := TX12) (N := 47) hx hb hts ii_X12_readDogDoes hown hK hP 0 rfl rfl 38 (by decide) (hts _ mm_X12_readDogDoes_1) (fun _ hh => hh) rfl dX12_readDogDoes_32 ?_
    refine lv_iload_n hx hb dX12_readDogDoes_35 rfl (lv_at hl 1 rfl) ?_
    refine lv_iconst (v := 2) hx hb dX12_readDogDoes_36 (by decide) ?_
    refine lv_iadd hx hb dX12_readDogDoes_37 ?_
    refine zz_top (v := nI (va + 2)) (nI_add va 2) ?_
    refine lv_aload_n hx hb dX12_readDogDoes_38 rfl (lv_at hl 0 rfl) ?_
    refine lv_bipush (v := 9) hx hb dX12_readDogDoes_39 (by decide) ?_
    refine va_calli (va_runV (As := [.int 9]) (rest := [.int (nI (va + 2)), .ref (ar 14)]) ⟨hx, hb, hml, hown, hts⟩ (f_isWord9 l dC dI ar cy _ hN st4 sl B g m p hG.1 (MBt.fr hB hF) hT) (cwV 1 hts gX12_readDogDoes_X12_isWord rfl rfl rfl (by decide +kernel) ⟨Nat.le_of_ble_eq_true rfl, Nat.le_of_ble_eq_true rfl⟩) ⟨fun a U g mk q => ⟨q.1, mPre.blind q.2⟩, va_recv hK hP (ci := 11) (q0 := 0) rfl rfl, fun U hU hW => ⟨rfl, mPre.of hP hK hU hW⟩⟩ rfl rfl hl.1 rfl (lv_room (Nat.le_of_ble_eq_true rfl)) dX12_readDogDoes_41 ⟨Nat.le_of_ble_eq_true rfl, Nat.le_of_ble_eq_true rfl⟩) hS (fun q _ h => MA.le hS.1 q h) (MA.le hS.1) (fun r5 x t H locs ht hvm hw hB9 _ _ hS => ?_)
    have hP := mB.at ht hB9
    clear hB9 ht hvm
    obtain ⟨rfl, hw⟩ := hw
    have hP : va_P (dC, dI) vwCl (mw ar cy st4 sl) _ := hP
    rcases hw with ⟨rfl, hf6⟩ | ⟨rfl, hf7⟩
    · refine lv_if_eq (tgt := 51) hx hb dX12_readDogDoes_44 (by decide) (fun cc => absurd cc (by decide)) (fun _ => ?_)
      refine lv_iconst (v := 1) hx hb dX12_readDogDoes_47 (by decide) ?_
      refine lv_goto (tgt := 52) hx hb dX12_readDogDoes_48 (by decide) ?_
      refine va_iast hx hb hK hP (mD hN _ _ _ _) hS 14 13 rfl rfl (i := (nI (va + 2))) (vp_in_nI (by omega) (by decide)) dX12_readDogDoes_52 (fun H locs hP _ hS => ?_)
      rw [nI_clamp (by omega)] at hP
      have hP : va_P (dC, dI) vwCl (mw ar cy (up2 st4 14 (va + 2) 1) sl) H := hP
      obtain ⟨st8, est8⟩ : ∃ y, y = up2 st4 14 (va + 2) 1 := ⟨_, rfl⟩
      have hG : MG [1, 2, 3, 6, 7, 8, 9, 10, 11, 12, 14, 15, 20, 21, 22] st st8 := by rw [est8]; exact hG.up (rz (mr_14_2_198 (va + 2) (by omega) (by omega))) (pn (pcl_14_2_198 (va + 2) (by omega) (by omega)) (by decide))
      rw [← est8] at hP
      have hF : FM 7 st sl st8 sl := by rw [est8]; exact hF.up (dm_ln _)
      have hT : TM B g m p st8 sl := by rw [est8]; exact hT.up (by omega)
      have hR : RN c nm st8 sl := by rw [est8]; exact hR.up (by omega)
      refine lv_aload_n hx hb dX12_readDogDoes_53 rfl (lv_at hl 0 rfl) ?_
      refine va_callv (va_runV (As := []) (rest := []) ⟨hx, hb, hml, hown, hts⟩ (f_go l dC dI ar cy _ hN st8 sl B g m (tkx B g m p) hG.1 (MBt.fr hB hF) hT.1 hk2.2) (cwV 0 hts gX12_readDogDoes_X12_go rfl rfl rfl (by decide +kernel) ⟨Nat.le_of_ble_eq_true rfl, Nat.le_of_ble_eq_true rfl⟩) ⟨fun a U g mk q => ⟨q.1, mPre.blind q.2⟩, va_recv hK hP (ci := 11) (q0 := 0) rfl rfl, fun U hU hW => ⟨rfl, mPre.of hP hK hU hW⟩⟩ rfl rfl hl.1 rfl (lv_room (Nat.le_of_ble_eq_true rfl)) dX12_readDogDoes_54 ⟨Nat.le_of_ble_eq_true rfl, Nat.le_of_ble_eq_true rfl⟩) hS (fun q _ h => MA.le hS.1 q h) (MA.le hS.1) (fun x t H locs ht hvm hw hB9 _ _ hS => ?_)
      have hP := mB.at ht hB9
      clear hB9 ht hvm
      obtain ⟨st10, sl11⟩ := x
      obtain ⟨hG2, hF2, hw⟩ := hw
      dsimp only at hG2 hF2 hw
      have hP : va_P (dC, dI) vwCl (mw ar cy st10 sl11) _ := hP
      have hG : MG [1, 2, 3, 6, 7, 8, 9, 10, 11, 12, 14, 15, 20, 21, 22] st st10 := hG.tr hG2 (by decide)
      have hFst10 : FM 1 st8 sl st10 sl11 := hF2
      have hF : FM 7 st sl st10 sl11 := hF.tr hFst10 (by omega) (by omega)
      clear hG2 hF2
      have hR : RN c nm st10 sl11 := hR.fr hFst10
      have hT := hw
      have hp9 := hT.2.2.2.2.2.2
      have hk1 := tkd_lt (B := B) (g := g) (m := m) (p := (tkx B g m p))
      have hk2 := tkx_le (B := B) (g := g) (m := m) (p := (tkx B g m p)) hp9
      have hk3 := tka_le (B := B) (g := g) (m := m) (p := (tkx B g m p)) hp9 hB.2.2.1
      have hk4 := tkv_lt (p := (tkx B g m p)) hB hp9
      have hk5 := tkw_lt (B := B) (g := g) (m := m) (p := (tkx B g m p))
      refine lv_iconst (v := 1) hx hb dX12_readDogDoes_57 (by decide) ?_
      exact W.zret (v := 1) hx hb hr rfl (fun t ht hW => ⟨⟨1, (st10, sl11), rfl, ⟨hG, hF, Or.inl (⟨(tkx B g m p), rfl, hT, bDg_y (by omega), by show st10 0 10 = st 0 10; rw [(hFst10 0 10 (by decide)).1, est8, up2_ne (r := 14) (k := (va + 2)) (a := 0) (j := 10) _ _ (by omega), est4, up2_ne (r := 14) (k := va) (a := 0) (j := 10) _ _ (by omega)]⟩)⟩, mB.of ht hP⟩, hS.F ht⟩) hS.2.2 dX12_readDogDoes_58
    · refine lv_if_eq (tgt := 51) hx hb dX12_readDogDoes_44 (by decide) (fun _ => ?_) (fun cc => absurd (by decide) cc)
      refine lv_iconst (v := 0) hx hb dX12_readDogDoes_51 (by decide) ?_
      refine va_iast hx hb hK hP (mD hN _ _ _ _) hS 14 13 rfl rfl (i := (nI (va + 2))) (vp_in_nI (by omega) (by decide)) dX12_readDogDoes_52 (fun H locs hP _ hS => ?_)
      rw [nI_clamp (by omega)] at hP
      have hP : va_P (dC, dI) vwCl (mw ar cy (up2 st4 14 (va + 2) 0) sl) H := hP
      obtain ⟨st12, est12⟩ : ∃ y, y = up2 st4 14 (va + 2) 0 := ⟨_, rfl⟩
      have hG : MG [1, 2, 3, 6, 7, 8, 9, 10, 11, 12, 14, 15, 20, 21, 22] st st12 := by rw [est12]; exact hG.up (rz (mr_14_2_198 (va + 2) (by omega) (by omega))) (pn (pcl_14_2_198 (va + 2) (by omega) (by omega)) (by decide))
      rw [← est12] at hP
      have hF : FM 7 st sl st12 sl := by rw [est12]; exact hF.up (dm_ln _)
      have hT : TM B g m p st12 sl := by rw [est12]; exact hT.up (by omega)
      have hR : RN c nm st12 sl := by rw [est12]; exact hR.up (by omega)
      refine lv_aload_n hx hb dX12_readDogDoes_53 rfl (lv_at hl 0 rfl) ?_
      refine va_callv (va_runV (As := []) (rest := []) ⟨hx, hb, hml, hown, hts⟩ (f_go l dC dI ar cy _ hN st12 sl B g m (tkx B g m p) hG.1 (MBt.fr hB hF) hT.1 hk2.2) (cwV 0 hts gX12_readDogDoes_X12_go rfl rfl rfl (by decide +kernel) ⟨Nat.le_of_ble_eq_true rfl, Nat.le_of_ble_eq_true rfl⟩) ⟨fun a U g mk q => ⟨q.1, mPre.blind q.2⟩, va_recv hK hP (ci := 11) (q0 := 0) rfl rfl, fun U hU hW => ⟨rfl, mPre.of hP hK hU hW⟩⟩ rfl rfl hl.1 rfl (lv_room (Nat.le_of_ble_eq_true rfl)) dX12_readDogDoes_54 ⟨Nat.le_of_ble_eq_true rfl, Nat.le_of_ble_eq_true rfl⟩) hS (fun q _ h => MA.le hS.1 q h) (MA.le hS.1) (fun x t H locs ht hvm hw hB9 _ _ hS => ?_)
      have hP := mB.at ht hB9
      clear hB9 ht hvm
      obtain ⟨st14, sl15⟩ := x
      obtain ⟨hG2, hF2, hw⟩ := hw
      dsimp only at hG2 hF2 hw
      have hP : va_P (dC, dI) vwCl (mw ar cy st14 sl15) _ := hP
      have hG : MG [1, 2, 3, 6, 7, 8, 9, 10, 11, 12, 14, 15, 20, 21, 22] st st14 := hG.tr hG2 (by decide)
      have hFst14 : FM 1 st12 sl st14 sl15 := hF2
      have hF : FM 7 st sl st14 sl15 := hF.tr hFst14 (by omega) (by omega)
      clear hG2 hF2
      have hR : RN c nm st14 sl15 := hR.fr hFst14
      have hT := hw
      have hp9 := hT.2.2.2.2.2.2
      have hk1 := tkd_lt (B := B) (g := g) (m := m) (p := (tkx B g m p))
      have hk2 := tkx_le (B := B) (g := g) (m := m) (p := (tkx B g m p)) hp9
      have hk3 := tka_le (B := B) (g := g) (m := m) (p := (tkx B g m p)) hp9 hB.2.2.1
      have hk4 := tkv_lt (p := (tkx B g m p)) hB hp9
      have hk5 := tkw_lt (B := B) (g := g) (m := m) (p := (tkx B g m p))
      refine lv_iconst (v := 1) hx hb dX12_readDogDoes_57 (by decide) ?_
      exact W.zret (v := 1) hx hb hr rfl (fun t ht hW => ⟨⟨1, (st14, sl15), rfl, ⟨hG, hF, Or.inl (⟨(tkx B g m p), rfl, hT, bDg_y (by omega), by show st14 0 10 = st 0 10; rw [(hFst14 0 10 (by decide)).1, est12, up2_ne (r := 14) (k := (va + 2)) (a := 0) (j := 10) _ _ (by omega), est4, up2_ne (r := 14) (k := va) (a := 0) (j := 10) _ _ (by omega)]⟩)⟩, mB.of ht hP⟩, hS.F ht⟩) hS.2.2 dX12_readDogDoes_58
  · refine lv_if_ne (tgt := 24) hx hb dX12_readDogDoes_6 (by decide) (fun cc => absurd (by decide) cc) (fun _ => ?_)
    refine lv_aload_n hx hb dX12_readDogDoes_9 rfl (lv_at hl 0 rfl) ?_
    refine lv_bipush (v := 10) hx hb dX12_readDogDoes_10 (by decide) ?_
    refine va_calli (va_runV (As := [.int 10]) (rest := []) ⟨hx, hb, hml, hown, hts⟩ (f_isWord10 l dC dI ar cy _ hN st sl B g m p hG.1 (MBt.fr hB hF) hT) (cwV 1 hts gX12_readDogDoes_X12_isWord rfl rfl rfl (by decide +kernel) ⟨Nat.le_of_ble_eq_true rfl, Nat.le_of_ble_eq_true rfl⟩) ⟨fun a U g mk q => ⟨q.1, mPre.blind q.2⟩, va_recv hK hP (ci := 11) (q0 := 0) rfl rfl, fun U hU hW => ⟨rfl, mPre.of hP hK hU hW⟩⟩ rfl rfl hl.1 rfl (lv_room (Nat.le_of_ble_eq_true rfl)) dX12_readDogDoes_12 ⟨Nat.le_of_ble_eq_true rfl, Nat.le_of_ble_eq_true rfl⟩) hS (fun q _ h => MA.le hS.1 q h) (MA.le hS.1) (fun r16 x t H locs ht hvm hw hB9 _ _ hS => ?_)
    have hP := mB.at ht hB9
    clear hB9 ht hvm
    obtain ⟨rfl, hw⟩ := hw
    have hP : va_P (dC, dI) vwCl (mw ar cy st sl) _ := hP
    rcases hw with ⟨rfl, hf17⟩ | ⟨rfl, hf18⟩
    · refine lv_if_ne (tgt := 24) hx hb dX12_readDogDoes_15 (by decide) (fun _ => ?_) (fun cc => absurd cc (by decide))
      refine lv_aload_n hx hb dX12_readDogDoes_24 rfl (lv_at hl 0 rfl) ?_
      refine va_get (D := (dC, dI)) (ci := 11) (v := .ref (ar 14)) (C := RX12) (T := TX12) (N := 47) hx hb hts ii_X12_readDogDoes hown hK hP 0 rfl rfl 38 (by decide) (hts _ mm_X12_readDogDoes_1) (fun _ hh => hh) rfl dX12_readDogDoes_25 ?_
      refine lv_iload_n hx hb dX12_readDogDoes_28 rfl (lv_at hl 1 rfl) ?_
      refine lv_iconst (v := 3) hx hb dX12_readDogDoes_29 (by decide) ?_
      refine va_iast hx hb hK hP (mD hN _ _ _ _) hS 14 13 rfl rfl (i := (nI va)) (vp_in_nI (by omega) (by decide)) dX12_readDogDoes_30 (fun H locs hP _ hS => ?_)
      rw [nI_clamp (by omega)] at hP
      have hP : va_P (dC, dI) vwCl (mw ar cy (up2 st 14 va 3) sl) H := hP
      obtain ⟨st19, est19⟩ : ∃ y, y = up2 st 14 va 3 := ⟨_, rfl⟩
      have hG : MG [1, 2, 3, 6, 7, 8, 9, 10, 11, 12, 14, 15, 20, 21, 22] st st19 := by rw [est19]; exact hG.up (rz (mr_14_0_196 va (by omega) (by omega))) (pn (pcl_14_0_196 va (by omega) (by omega)) (by decide))
      rw [← est19] at hP
      have hF : FM 7 st sl st19 sl := by rw [est19]; exact hF.up (dm_ln _)
      have hT : TM B g m p st19 sl := by rw [est19]; exact hT.up (by omega)
      have hR : RN c nm st19 sl := by rw [est19]; exact hR.up (by omega)
      refine lv_aload_n hx hb dX12_readDogDoes_31 rfl (lv_at hl 0 rfl) ?_
      refine va_get (D := (dC, dI)) (ci := 11) (v := .ref (ar 14)) (C := RX12) (T := TX12) (N := 47) hx hb hts ii_X12_readDogDoes hown hK hP 0 rfl rfl 38 (by decide) (hts _ mm_X12_readDogDoes_1) (fun _ hh => hh) rfl dX12_readDogDoes_32 ?_
      refine lv_iload_n hx hb dX12_readDogDoes_35 rfl (lv_at hl 1 rfl) ?_
      refine lv_iconst (v := 2) hx hb dX12_readDogDoes_36 (by decide) ?_
      refine lv_iadd hx hb dX12_readDogDoes_37 ?_
      refine zz_top (v := nI (va + 2)) (nI_add va 2) ?_
      refine lv_aload_n hx hb dX12_readDogDoes_38 rfl (lv_at hl 0 rfl) ?_
      refine lv_bipush (v := 9) hx hb dX12_readDogDoes_39 (by decide) ?_
      refine va_calli (va_runV (As := [.int 9]) (rest := [.int (nI (va + 2)), .ref (ar 14)]) ⟨hx, hb, hml, hown, hts⟩ (f_isWord9 l dC dI ar cy _ hN st19 sl B g m p hG.1 (MBt.fr hB hF) hT) (cwV 1 hts gX12_readDogDoes_X12_isWord rfl rfl rfl (by decide +kernel) ⟨Nat.le_of_ble_eq_true rfl, Nat.le_of_ble_eq_true rfl⟩) ⟨fun a U g mk q => ⟨q.1, mPre.blind q.2⟩, va_recv hK hP (ci := 11) (q0 := 0) rfl rfl, fun U hU hW => ⟨rfl, mPre.of hP hK hU hW⟩⟩ rfl rfl hl.1 rfl (lv_room (Nat.le_of_ble_eq_true rfl)) dX12_readDogDoes_41 ⟨Nat.le_of_ble_eq_true rfl, Nat.le_of_ble_eq_true rfl⟩) hS (fun q _ h => MA.le hS.1 q h) (MA.le hS.1) (fun r20 x t H locs ht hvm hw hB9 _ _ hS => ?_)
      have hP := mB.at ht hB9
      clear hB9 ht hvm
      obtain ⟨rfl, hw⟩ := hw
      have hP : va_P (dC, dI) vwCl (mw ar cy st19 sl) _ := hP
      rcases hw with ⟨rfl, hf21⟩ | ⟨rfl, hf22⟩
      · refine lv_if_eq (tgt := 51) hx hb dX12_readDogDoes_44 (by decide) (fun cc => absurd cc (by decide)) (fun _ => ?_)
        refine lv_iconst (v := 1) hx hb dX12_readDogDoes_47 (by decide) ?_
        refine lv_goto (tgt := 52) hx hb dX12_readDogDoes_48 (by decide) ?_
        refine va_iast hx hb hK hP (mD hN _ _ _ _) hS 14 13 rfl rfl (i := (nI (va + 2))) (vp_in_nI (by omega) (by decide)) dX12_readDogDoes_52 (fun H locs hP _ hS => ?_)
        rw [nI_clamp (by omega)] at hP
        have hP : va_P (dC, dI) vwCl (mw ar cy (up2 st19 14 (va + 2) 1) sl) H := hP
        obtain ⟨st23, est23⟩ : ∃ y, y = up2 st19 14 (va + 2) 1 := ⟨_, rfl⟩
        have hG : MG [1, 2, 3, 6, 7, 8, 9, 10, 11, 12, 14, 15, 20, 21, 22] st st23 := by rw [est23]; exact hG.up (rz (mr_14_2_198 (va + 2) (by omega) (by omega))) (pn (pcl_14_2_198 (va + 2) (by omega) (by omega)) (by decide))
        rw [← est23] at hP
        have hF : FM 7 st sl st23 sl := by rw [est23]; exact hF.up (dm_ln _)
        have hT : TM B g m p st23 sl := by rw [est23]; exact hT.up (by omega)
        have hR : RN c nm st23 sl := by rw [est23]; exact hR.up (by omega)
        refine lv_aload_n hx hb dX12_readDogDoes_53 rfl (lv_at hl 0 rfl) ?_
        refine va_callv (va_runV (As := []) (rest := []) ⟨hx, hb, hml, hown, hts⟩ (f_go l dC dI ar cy _ hN st23 sl B g m (tkx B g m p) hG.1 (MBt.fr hB hF) hT.1 hk2.2) (cwV 0 hts gX12_readDogDoes_X12_go rfl rfl rfl (by decide +kernel) ⟨Nat.le_of_ble_eq_true rfl, Nat.le_of_ble_eq_true rfl⟩) ⟨fun a U g mk q => ⟨q.1, mPre.blind q.2⟩, va_recv hK hP (ci := 11) (q0 := 0) rfl rfl, fun U hU hW => ⟨rfl, mPre.of hP hK hU hW⟩⟩ rfl rfl hl.1 rfl (lv_room (Nat.le_of_ble_eq_true rfl)) dX12_readDogDoes_54 ⟨Nat.le_of_ble_eq_true rfl, Nat.le_of_ble_eq_true rfl⟩) hS (fun q _ h => MA.le hS.1 q h) (MA.le hS.1) (fun x t H locs ht hvm hw hB9 _ _ hS => ?_)
        have hP := mB.at ht hB9
        clear hB9 ht hvm
        obtain ⟨st25, sl26⟩ := x
        obtain ⟨hG2, hF2, hw⟩ := hw
        dsimp only at hG2 hF2 hw
        have hP : va_P (dC, dI) vwCl (mw ar cy st25 sl26) _ := hP
        have hG : MG [1, 2, 3, 6, 7, 8, 9, 10, 11, 12, 14, 15, 20, 21, 22] st st25 := hG.tr hG2 (by decide)
        have hFst25 : FM 1 st23 sl st25 sl26 := hF2
        have hF : FM 7 st sl st25 sl26 := hF.tr hFst25 (by omega) (by omega)
        clear hG2 hF2
        have hR : RN c nm st25 sl26 := hR.fr hFst25
        have hT := hw
        have hp9 := hT.2.2.2.2.2.2
        have hk1 := tkd_lt (B := B) (g := g) (m := m) (p := (tkx B g m p))
        have hk2 := tkx_le (B := B) (g := g) (m := m) (p := (tkx B g m p)) hp9
        have hk3 := tka_le (B := B) (g := g) (m := m) (p := (tkx B g m p)) hp9 hB.2.2.1
        have hk4 := tkv_lt (p := (tkx B g m p)) hB hp9
        have hk5 := tkw_lt (B := B) (g := g) (m := m) (p := (tkx B g m p))
        refine lv_iconst (v := 1) hx hb dX12_readDogDoes_57 (by decide) ?_
        exact W.zret (v := 1) hx hb hr rfl (fun t ht hW => ⟨⟨1, (st25, sl26), rfl, ⟨hG, hF, Or.inl (⟨(tkx B g m p), rfl, hT, bDg_y (by omega), by show st25 0 10 = st 0 10; rw [(hFst25 0 10 (by decide)).1, est23, up2_ne (r := 14) (k := (va + 2)) (a := 0) (j := 10) _ _ (by omega), est19, up2_ne (r := 14) (k := va) (a := 0) (j := 10) _ _ (by omega)]⟩)⟩, mB.of ht hP⟩, hS.F ht⟩) hS.2.2 dX12_readDogDoes_58
      · refine lv_if_eq (tgt := 51) hx hb dX12_readDogDoes_44 (by decide) (fun _ => ?_) (fun cc => absurd (by decide) cc)
        refine lv_iconst (v := 0) hx hb dX12_readDogDoes_51 (by decide) ?_
        refine va_iast hx hb hK hP (mD hN _ _ _ _) hS 14 13 rfl rfl (i := (nI (va + 2))) (vp_in_nI (by omega) (by decide)) dX12_readDogDoes_52 (fun H locs hP _ hS => ?_)
        rw [nI_clamp (by omega)] at hP
        have hP : va_P (dC, dI) vwCl (mw ar cy (up2 st19 14 (va + 2) 0) sl) H := hP
        obtain ⟨st27, est27⟩ : ∃ y, y = up2 st19 14 (va + 2) 0 := ⟨_, rfl⟩
        have hG : MG [1, 2, 3, 6, 7, 8, 9, 10, 11, 12, 14, 15, 20, 21, 22] st st27 := by rw [est27]; exact hG.up (rz (mr_14_2_198 (va + 2) (by omega) (by omega))) (pn (pcl_14_2_198 (va + 2) (by omega) (by omega)) (by decide))
        rw [← est27] at hP
        have hF : FM 7 st sl st27 sl := by rw [est27]; exact hF.up (dm_ln _)
        have hT : TM B g m p st27 sl := by rw [est27]; exact hT.up (by omega)
        have hR : RN c nm st27 sl := by rw [est27]; exact hR.up (by omega)
        refine lv_aload_n hx hb dX12_readDogDoes_53 rfl (lv_at hl 0 rfl) ?_
        refine va_callv (va_runV (As := []) (rest := []) ⟨hx, hb, hml, hown, hts⟩ (f_go l dC dI ar cy _ hN st27 sl B g m (tkx B g m p) hG.1 (MBt.fr hB hF) hT.1 hk2.2) (cwV 0 hts gX12_readDogDoes_X12_go rfl rfl rfl (by decide +kernel) ⟨Nat.le_of_ble_eq_true rfl, Nat.le_of_ble_eq_true rfl⟩) ⟨fun a U g mk q => ⟨q.1, mPre.blind q.2⟩, va_recv hK hP (ci := 11) (q0 := 0) rfl rfl, fun U hU hW => ⟨rfl, mPre.of hP hK hU hW⟩⟩ rfl rfl hl.1 rfl (lv_room (Nat.le_of_ble_eq_true rfl)) dX12_readDogDoes_54 ⟨Nat.le_of_ble_eq_true rfl, Nat.le_of_ble_eq_true rfl⟩) hS (fun q _ h => MA.le hS.1 q h) (MA.le hS.1) (fun x t H locs ht hvm hw hB9 _ _ hS => ?_)
        have hP := mB.at ht hB9
        clear hB9 ht hvm
        obtain ⟨st29, sl30⟩ := x
        obtain ⟨hG2, hF2, hw⟩ := hw
        dsimp only at hG2 hF2 hw
        have hP : va_P (dC, dI) vwCl (mw ar cy st29 sl30) _ := hP
        have hG : MG [1, 2, 3, 6, 7, 8, 9, 10, 11, 12, 14, 15, 20, 21, 22] st st29 := hG.tr hG2 (by decide)
        have hFst29 : FM 1 st27 sl st29 sl30 := hF2
        have hF : FM 7 st sl st29 sl30 := hF.tr hFst29 (by omega) (by omega)
        clear hG2 hF2
        have hR : RN c nm st29 sl30 := hR.fr hFst29
        have hT := hw
        have hp9 := hT.2.2.2.2.2.2
        have hk1 := tkd_lt (B := B) (g := g) (m := m) (p := (tkx B g m p))
        have hk2 := tkx_le (B := B) (g := g) (m := m) (p := (tkx B g m p)) hp9
        have hk3 := tka_le (B := B) (g := g) (m := m) (p := (tkx B g m p)) hp9 hB.2.2.1
        have hk4 := tkv_lt (p := (tkx B g m p)) hB hp9
        have hk5 := tkw_lt (B := B) (g := g) (m := m) (p := (tkx B g m p))
        refine lv_iconst (v := 1) hx hb dX12_readDogDoes_57 (by decide) ?_
        exact W.zret (v := 1) hx hb hr rfl (fun t ht hW => ⟨⟨1, (st29, sl30), rfl, ⟨hG, hF, Or.inl (⟨(tkx B g m p), rfl, hT, bDg_y (by omega), by show st29 0 10 = st 0 10; rw [(hFst29 0 10 (by decide)).1, est27, up2_ne (r := 14) (k := (va + 2)) (a := 0) (j := 10) _ _ (by omega), est19, up2_ne (r := 14) (k := va) (a := 0) (j := 10) _ _ (by omega)]⟩)⟩, mB.of ht hP⟩, hS.F ht⟩) hS.2.2 dX12_readDogDoes_58
    · refine lv_if_ne (tgt := 24) hx hb dX12_readDogDoes_15 (by decide) (fun cc => absurd (by decide) cc) (fun _ => ?_)
      refine lv_aload_n hx hb dX12_readDogDoes_18 rfl (lv_at hl 0 rfl) ?_
      refine lv_iconst (v := 1) hx hb dX12_readDogDoes_19 (by decide) ?_
      refine va_calli (va_runV (As := [.int 1]) (rest := []) ⟨hx, hb, hml, hown, hts⟩ (f_bad l dC dI ar cy _ hN st sl 1 B g m p (by omega) hG.1 (MBt.fr hB hF) hT) (cwV 1 hts gX12_readDogDoes_X12_bad rfl rfl rfl (by decide +kernel) ⟨Nat.le_of_ble_eq_true rfl, Nat.le_of_ble_eq_true rfl⟩) ⟨fun a U g mk q => ⟨q.1, mPre.blind q.2⟩, va_recv hK hP (ci := 11) (q0 := 0) rfl rfl, fun U hU hW => ⟨rfl, mPre.of hP hK hU hW⟩⟩ rfl rfl hl.1 rfl (lv_room (Nat.le_of_ble_eq_true rfl)) dX12_readDogDoes_20 ⟨Nat.le_of_ble_eq_true rfl, Nat.le_of_ble_eq_true rfl⟩) hS (fun q _ h => MA.le hS.1 q h) (MA.le hS.1) (fun r31 x t H locs ht hvm hw hB9 _ _ hS => ?_)
      have hP := mB.at ht hB9
      clear hB9 ht hvm
      obtain ⟨st32, sl33⟩ := x
      obtain ⟨hG2, hF2, hw⟩ := hw
      dsimp only at hG2 hF2 hw
      have hP : va_P (dC, dI) vwCl (mw ar cy st32 sl33) _ := hP
      have hG : MG [1, 2, 3, 6, 7, 8, 9, 10, 11, 12, 14, 15, 20, 21, 22] st st32 := hG.tr hG2 (by decide)
      have hFst32 : FM 2 st sl st32 sl33 := hF2
      have hF : FM 7 st sl st32 sl33 := hF.tr hFst32 (by omega) (by omega)
      clear hG2 hF2
      have hR : RN c nm st32 sl33 := hR.fr hFst32
      obtain ⟨rfl, hf34, hf35, hT⟩ := hw
      have hp9 := hT.2.2.2.2.2.2
      have hk1 := tkd_lt (B := B) (g := g) (m := m) (p := p)
      have hk2 := tkx_le (B := B) (g := g) (m := m) (p := p) hp9
      have hk3 := tka_le (B := B) (g := g) (m := m) (p := p) hp9 hB.2.2.1
      have hk4 := tkv_lt (p := p) hB hp9
      have hk5 := tkw_lt (B := B) (g := g) (m := m) (p := p)
      exact W.zret (v := 0) hx hb hr rfl (fun t ht hW => ⟨⟨0, (st32, sl33), rfl, ⟨hG, hF, Or.inr (⟨1, (tka B g m p), rfl, by show st32 0 10 = _; rw [hf34, bdk_1], by show st32 0 11 = _; rw [hf35], by omega, bDg_n (by omega)⟩)⟩, mB.of ht hP⟩, hS.F ht⟩) hS.2.2 dX12_readDogDoes_23
set_option maxHeartbeats 4000000 in
set_option maxRecDepth 100000 in
theorem f_readPersonDoes (l : Launch) (dC : Nat → ClassId) (dI : Nat → Nat → Nat) (ar : Nat → Nat) (cy : Nat → ClassId) (sz : Nat) (hN : MN ar) (st : Nat → Nat → Int32) (sl : Nat → Nat → Int64) (va : Nat) (B : Nat → Nat) (g m : Nat) (p : Nat) (c : Nat → Nat) (nm : Nat → Nat → Nat) (hva : va < 196) (hI : MI st) (hB : MBt B g m st) (hT : TM B g m p st sl) (hR : RN c nm st sl) : Met l yX12_readPersonDoes wsX12_readPersonDoes ({ frames := 5, cells := 0, slots := 0, locals := 111 }) (va_Pc [.ref (ar 0), .int (nI va)] (mPre dC dI ar cy sz st sl)) (va_Qi (fun (r : Int32) (x : MT) => MG [1, 2, 3, 6, 7, 8, 9, 10, 11, 12, 14, 15, 20, 21, 22] st x.1 ∧ FM 7 st sl x.1 x.2 ∧ ((∃ q : Nat, r = 1 ∧ TM B g m q x.1 x.2 ∧ bPe B g m c nm p = (0, q, 0) ∧ x.1 0 10 = st 0 10) ∨ (∃ f : Nat, ∃ a : Nat, r = 0 ∧ x.1 0 10 = nI f ∧ x.1 0 11 = nI a ∧ 1 ≤ f ∧ bPe B g m c nm p = sf f a))) (mB dC dI ar cy) (MA ar sz)) 0 0 (MA ar sz) := by
  refine Met.ofW (cc := cX12_readPersonDoes) (maxL := 2) (ret := (some .boolean)) (by decide) rfl ?_
  intro p9 e s m9 args below meth c9 s₁ B9 hml hv
  obtain ⟨rfl, hsz, hP, hK⟩ := hv
  have hx := B9.exec
  have hb := B9.bytes
  have hr := B9.returns
  have hts := atoms_spec (ws := wsX12_readPersonDoes) B9.pre
  have hown : s.vm.findClass RX12 = some m9.cls := findClass_of_methodNamed B9.named
  subst hsz
  have hS : va_S (MA ar s.heap.size) s.heap s.heap [] := va_S.rf
  have hG : MG [1, 2, 3, 6, 7, 8, 9, 10, 11, 12, 14, 15, 20, 21, 22] st st := MG.rf hI
  have hl := lv_entry ([.ref (ar 0), .int (nI va)]) (n := 2) (Nat.le_of_ble_eq_true rfl)
  rw [lg_entry_eq]
  generalize (lg_sl ([.ref (ar 0), .int (nI va)]) ++ List.replicate (2 - (lg_sl ([.ref (ar 0), .int (nI va)])).length) Slot.unset).toArray = ls at hl ⊢
  have hl : lv_has ls 2 [(0, .ref (ar 0)), (1, .int (nI va))] := hl
  clear hI
  have hB1 := hB.2.2.1
  have hB2 := hB.2.2.2.1
  have hF : FM 7 st sl st sl := FM.rf
  have hp9 := hT.2.2.2.2.2.2
  have hk1 := tkd_lt (B := B) (g := g) (m := m) (p := p)
  have hk2 := tkx_le (B := B) (g := g) (m := m) (p := p) hp9
  have hk3 := tka_le (B := B) (g := g) (m := m) (p := p) hp9 hB.2.2.1
  have hk4 := tkv_lt (p := p) hB hp9
  have hk5 := tkw_lt (B := B) (g := g) (m := m) (p := p)
  have hR9 := hR.2.1
  refine lv_aload_n hx hb dX12_readPersonDoes_0 rfl (lv_at hl 0 rfl) ?_
  refine lv_bipush (v := 11) hx hb dX12_readPersonDoes_1 (by decide) ?_
  refine va_calli (va_runV (As := [.int 11]) (rest := []) ⟨hx, hb, hml, hown, hts⟩ (f_isWord11 l dC dI ar cy _ hN st sl B g m p hG.1 (MBt.fr hB hF) hT) (cwV 1 hts gX12_readPersonDoes_X12_isWord rfl rfl rfl (by decide +kernel) ⟨Nat.le_of_ble_eq_true rfl, Nat.le_of_ble_eq_true rfl⟩) ⟨fun a U g mk q => ⟨q.1, mPre.blind q.2⟩, va_recv hK hP (ci := 11) (q0 := 0) rfl rfl, fun U hU hW => ⟨rfl, mPre.of hP hK hU hW⟩⟩ rfl rfl hl.1 rfl (lv_room (Nat.le_of_ble_eq_true rfl)) dX12_readPersonDoes_3 ⟨Nat.le_of_ble_eq_true rfl, Nat.le_of_ble_eq_true rfl⟩) hS (fun q _ h => MA.le hS.1 q h) (MA.le hS.1) (fun r1 x t H locs ht hvm hw hB9 _ _ hS => ?_)
  have hP := mB.at ht hB9
  clear hB9 ht hvm
  obtain ⟨rfl, hw⟩ := hw
  have hP : va_P (dC, dI) vwCl (mw ar cy st sl) _ := hP
  rcases hw with ⟨rfl, hf2⟩ | ⟨rfl, hf3⟩
  · refine lv_if_ne (tgt := 15) hx hb dX12_readPersonDoes_6 (by decide) (fun _ => ?_) (fun cc => absurd cc (by decide))
    refine lv_aload_n hx hb dX12_readPersonDoes_15 rfl (lv_at hl 0 rfl) ?_
    refine va_get (D := (dC, dI)) (ci := 11) (v := .ref (ar 14)) (C := RX12) (T := TX12) (N := 47) hx hb hts ii_X12_readPersonDoes hown hK hP 0 rfl rfl 38 (by decide) (hts _ mm_X12_readPersonDoes_1) (fun _ hh => hh) rfl dX12_readPersonDoes_16 ?_
    refine lv_iload_n hx hb dX12_readPersonDoes_19 rfl (lv_at hl 1 rfl) ?_
    refine lv_iconst (v := 4) hx hb dX12_readPersonDoes_20 (by decide) ?_
    refine va_iast hx hb hK hP (mD hN _ _ _ _) hS 14 13 rfl rfl (i := (nI va)) (vp_in_nI (by omega) (by decide)) dX12_readPersonDoes_21 (fun H locs hP _ hS => ?_)
    rw [nI_clamp (by omega)] at hP
    have hP : va_P (dC, dI) vwCl (mw ar cy (up2 st 14 va 4) sl) H := hP
    obtain ⟨st4, est4⟩ : ∃ y, y = up2 st 14 va 4 := ⟨_, rfl⟩
    have hG : MG [1, 2, 3, 6, 7, 8, 9, 10, 11, 12, 14, 15, 20, 21, 22] st st4 := by rw [est4]; exact hG.up (rz (mr_14_0_196 va (by omega) (by omega))) (pn (pcl_14_0_196 va (by omega) (by omega)) (by decide))
    rw [← est4] at hP
    have hF : FM 7 st sl st4 sl := by rw [est4]; exact hF.up (dm_ln _)
    have hT : TM B g m p st4 sl := by rw [est4]; exact hT.up (by omega)
    have hR : RN c nm st4 sl := by rw [est4]; exact hR.up (by omega)
    refine lv_aload_n hx hb dX12_readPersonDoes_22 rfl (lv_at hl 0 rfl) ?_
    refine va_callv (va_runV (As := []) (rest := []) ⟨hx, hb, hml, hown, hts⟩ (f_go l dC dI ar cy _ hN st4 sl B g m (tkx B g m p) hG.1 (MBt.fr hB hF) hT.1 hk2.2) (cwV 0 hts gX12_readPersonDoes_X12_go rfl rfl rfl (by decide +kernel) ⟨Nat.le_of_ble_eq_true rfl, Nat.le_of_ble_eq_true rfl⟩) ⟨fun a U g mk q => ⟨q.1, mPre.blind q.2⟩, va_recv hK hP (ci := 11) (q0 := 0) rfl rfl, fun U hU hW => ⟨rfl, mPre.of hP hK hU hW⟩⟩ rfl rfl hl.1 rfl (lv_room (Nat.le_of_ble_eq_true rfl)) dX12_readPersonDoes_23 ⟨Nat.le_of_ble_eq_true rfl, Nat.le_of_ble_eq_true rfl⟩) hS (fun q _ h => MA.le hS.1 q h) (MA.le hS.1) (fun x t H locs ht hvm hw hB9 _ _ hS => ?_)
    have hP := mB.at ht hB9
    clear hB9 ht hvm
    obtain ⟨st6, sl7⟩ := x
    obtain ⟨hG2, hF2, hw⟩ := hw
    dsimp only at hG2 hF2 hw
    have hP : va_P (dC, dI) vwCl (mw ar cy st6 sl7) _ := hP
    have hG : MG [1, 2, 3, 6, 7, 8, 9, 10, 11, 12, 14, 15, 20, 21, 22] st st6 := hG.tr hG2 (by decide)
    have hFst6 : FM 1 st4 sl st6 sl7 := hF2
    have hF : FM 7 st sl st6 sl7 := hF.tr hFst6 (by omega) (by omega)
    clear hG2 hF2
    have hR : RN c nm st6 sl7 := hR.fr hFst6
    have hT := hw
    have hp9 := hT.2.2.2.2.2.2
    have hk1 := tkd_lt (B := B) (g := g) (m := m) (p := (tkx B g m p))
    have hk2 := tkx_le (B := B) (g := g) (m := m) (p := (tkx B g m p)) hp9
    have hk3 := tka_le (B := B) (g := g) (m := m) (p := (tkx B g m p)) hp9 hB.2.2.1
    have hk4 := tkv_lt (p := (tkx B g m p)) hB hp9
    have hk5 := tkw_lt (B := B) (g := g) (m := m) (p := (tkx B g m p))
    refine lv_aload_n hx hb dX12_readPersonDoes_26 rfl (lv_at hl 0 rfl) ?_
    refine lv_iload_n hx hb dX12_readPersonDoes_27 rfl (lv_at hl 1 rfl) ?_
    refine lv_iconst (v := 2) hx hb dX12_readPersonDoes_28 (by decide) ?_
    refine lv_iadd hx hb dX12_readPersonDoes_29 ?_
    refine zz_top (v := nI (va + 2)) (nI_add va 2) ?_
    refine lv_aload_n hx hb dX12_readPersonDoes_30 rfl (lv_at hl 0 rfl) ?_
    refine va_calli (va_runV (As := []) (rest := [.int (nI (va + 2)), .ref (ar 0)]) ⟨hx, hb, hml, hown, hts⟩ (f_readPlaceName l dC dI ar cy _ hN st6 sl7 B g m (tkx B g m p) c nm hG.1 (MBt.fr hB hF) hT hR) (cwV 0 hts gX12_readPersonDoes_X12_readPlaceName rfl rfl rfl (by decide +kernel) ⟨Nat.le_of_ble_eq_true rfl, Nat.le_of_ble_eq_true rfl⟩) ⟨fun a U g mk q => ⟨q.1, mPre.blind q.2⟩, va_recv hK hP (ci := 11) (q0 := 0) rfl rfl, fun U hU hW => ⟨rfl, mPre.of hP hK hU hW⟩⟩ rfl rfl hl.1 rfl (lv_room (Nat.le_of_ble_eq_true rfl)) dX12_readPersonDoes_31 ⟨Nat.le_of_ble_eq_true rfl, Nat.le_of_ble_eq_true rfl⟩) hS (fun q _ h => MA.le hS.1 q h) (MA.le hS.1) (fun r8 x t H locs ht hvm hw hB9 _ _ hS => ?_)
    have hP := mB.at ht hB9
    clear hB9 ht hvm
    obtain ⟨st9, sl10⟩ := x
    obtain ⟨hG2, hF2, hw⟩ := hw
    dsimp only at hG2 hF2 hw
    have hP : va_P (dC, dI) vwCl (mw ar cy st9 sl10) _ := hP
    have hG : MG [1, 2, 3, 6, 7, 8, 9, 10, 11, 12, 14, 15, 20, 21, 22] st st9 := hG.tr hG2 (by decide)
    have hFst9 : FM 2 st6 sl7 st9 sl10 := hF2
    have hF : FM 7 st sl st9 sl10 := hF.tr hFst9 (by omega) (by omega)
    clear hG2 hF2
    have hR : RN c nm st9 sl10 := hR.fr hFst9
    rcases hw with ⟨n11, rfl, hf12, hf13, hT, hf14, hk15⟩ | ⟨n16, n17, rfl, hf18, hf19, hf20, hf21⟩
    · have hp9 := hT.2.2.2.2.2.2
      have hk1 := tkd_lt (B := B) (g := g) (m := m) (p := (tkx B g m (tkx B g m p)))
      have hk2 := tkx_le (B := B) (g := g) (m := m) (p := (tkx B g m (tkx B g m p))) hp9
      have hk3 := tka_le (B := B) (g := g) (m := m) (p := (tkx B g m (tkx B g m p))) hp9 hB.2.2.1
      have hk4 := tkv_lt (p := (tkx B g m (tkx B g m p))) hB hp9
      have hk5 := tkw_lt (B := B) (g := g) (m := m) (p := (tkx B g m (tkx B g m p)))
      refine va_calli (va_runV (As := [.int (nI (va + 2)), .int 1]) (rest := []) ⟨hx, hb, hml, hown, hts⟩ (f_keep1 l dC dI ar cy _ hN st9 sl10 (va + 2) B g m (tkx B g m (tkx B g m p)) n11 (by omega) hG.1 (MBt.fr hB hF) hT (by rw [hf13]) (by omega)) (cwV 2 hts gX12_readPersonDoes_X12_keep rfl rfl rfl (by decide +kernel) ⟨Nat.le_of_ble_eq_true rfl, Nat.le_of_ble_eq_true rfl⟩) ⟨fun a U g mk q => ⟨q.1, mPre.blind q.2⟩, va_recv hK hP (ci := 11) (q0 := 0) rfl rfl, fun U hU hW => ⟨rfl, mPre.of hP hK hU hW⟩⟩ rfl rfl hl.1 rfl (lv_room (Nat.le_of_ble_eq_true rfl)) dX12_readPersonDoes_34 ⟨Nat.le_of_ble_eq_true rfl, Nat.le_of_ble_eq_true rfl⟩) hS (fun q _ h => MA.le hS.1 q h) (MA.le hS.1) (fun r22 x t H locs ht hvm hw hB9 _ _ hS => ?_)
      have hP := mB.at ht hB9
      clear hB9 ht hvm
      obtain ⟨st23, sl24⟩ := x
      obtain ⟨hG2, hF2, hw⟩ := hw
      dsimp only at hG2 hF2 hw
      have hP : va_P (dC, dI) vwCl (mw ar cy st23 sl24) _ := hP
      have hG : MG [1, 2, 3, 6, 7, 8, 9, 10, 11, 12, 14, 15, 20, 21, 22] st st23 := hG.tr hG2 (by decide)
      have hFst23 : FM 7 st9 sl10 st23 sl24 := hF2
      have hF : FM 7 st sl st23 sl24 := hF.tr hFst23 (by omega) (by omega)
      clear hG2 hF2
      have hR : RN c nm st23 sl24 := hR.fr hFst23
      obtain ⟨rfl, hf25, hT, hk26⟩ := hw
      have hp9 := hT.2.2.2.2.2.2
      have hk1 := tkd_lt (B := B) (g := g) (m := m) (p := (tkx B g m (tkx B g m p)))
      have hk2 := tkx_le (B := B) (g := g) (m := m) (p := (tkx B g m (tkx B g m p))) hp9
      have hk3 := tka_le (B := B) (g := g) (m := m) (p := (tkx B g m (tkx B g m p))) hp9 hB.2.2.1
      have hk4 := tkv_lt (p := (tkx B g m (tkx B g m p))) hB hp9
      have hk5 := tkw_lt (B := B) (g := g) (m := m) (p := (tkx B g m (tkx B g m p)))
      refine lv_if_eq (tgt := 54) hx hb dX12_readPersonDoes_37 (by decide) (fun cc => absurd cc (by decide)) (fun _ => ?_)
      refine lv_aload_n hx hb dX12_readPersonDoes_40 rfl (lv_at hl 0 rfl) ?_
      refine lv_iload_n hx hb dX12_readPersonDoes_41 rfl (lv_at hl 1 rfl) ?_
      refine lv_iconst (v := 3) hx hb dX12_readPersonDoes_42 (by decide) ?_
      refine lv_iadd hx hb dX12_readPersonDoes_43 ?_
      refine zz_top (v := nI (va + 3)) (nI_add va 3) ?_
      refine va_calli (va_runV (As := [.int (nI (va + 3))]) (rest := []) ⟨hx, hb, hml, hown, hts⟩ (f_readHours l dC dI ar cy _ hN st23 sl24 (va + 3) B g m (tkx B g m (tkx B g m p)) c nm (by omega) hG.1 (MBt.fr hB hF) hT hR) (cwV 1 hts gX12_readPersonDoes_X12_readHours rfl rfl rfl (by decide +kernel) ⟨Nat.le_of_ble_eq_true rfl, Nat.le_of_ble_eq_true rfl⟩) ⟨fun a U g mk q => ⟨q.1, mPre.blind q.2⟩, va_recv hK hP (ci := 11) (q0 := 0) rfl rfl, fun U hU hW => ⟨rfl, mPre.of hP hK hU hW⟩⟩ rfl rfl hl.1 rfl (lv_room (Nat.le_of_ble_eq_true rfl)) dX12_readPersonDoes_44 ⟨Nat.le_of_ble_eq_true rfl, Nat.le_of_ble_eq_true rfl⟩) hS (fun q _ h => MA.le hS.1 q h) (MA.le hS.1) (fun r27 x t H locs ht hvm hw hB9 _ _ hS => ?_)
      have hP := mB.at ht hB9
      clear hB9 ht hvm
      obtain ⟨st28, sl29⟩ := x
      obtain ⟨hG2, hF2, hw⟩ := hw
      dsimp only at hG2 hF2 hw
      have hP : va_P (dC, dI) vwCl (mw ar cy st28 sl29) _ := hP
      have hG : MG [1, 2, 3, 6, 7, 8, 9, 10, 11, 12, 14, 15, 20, 21, 22] st st28 := hG.tr hG2 (by decide)
      have hFst28 : FM 7 st23 sl24 st28 sl29 := hF2
      have hF : FM 7 st sl st28 sl29 := hF.tr hFst28 (by omega) (by omega)
      clear hG2 hF2
      have hR : RN c nm st28 sl29 := hR.fr hFst28
      rcases hw with ⟨n30, rfl, hT, hf31, hk32⟩ | ⟨n33, n34, rfl, hf35, hf36, hf37, hf38⟩
      · have hp9 := hT.2.2.2.2.2.2
        have hk1 := tkd_lt (B := B) (g := g) (m := m) (p := n30)
        have hk2 := tkx_le (B := B) (g := g) (m := m) (p := n30) hp9
        have hk3 := tka_le (B := B) (g := g) (m := m) (p := n30) hp9 hB.2.2.1
        have hk4 := tkv_lt (p := n30) hB hp9
        have hk5 := tkw_lt (B := B) (g := g) (m := m) (p := n30)
        refine lv_if_eq (tgt := 54) hx hb dX12_readPersonDoes_47 (by decide) (fun cc => absurd cc (by decide)) (fun _ => ?_)
        refine lv_iconst (v := 1) hx hb dX12_readPersonDoes_50 (by decide) ?_
        refine lv_goto (tgt := 55) hx hb dX12_readPersonDoes_51 (by decide) ?_
        exact W.zret (v := 1) hx hb hr rfl (fun t ht hW => ⟨⟨1, (st28, sl29), rfl, ⟨hG, hF, Or.inl (⟨n30, rfl, hT, (bPe_y (by omega)).trans ((bPl_y hf14).trans hf31), by show st28 0 10 = st 0 10; rw [hk32, hk26, hk15, (hFst6 0 10 (by decide)).1, est4, up2_ne (r := 14) (k := va) (a := 0) (j := 10) _ _ (by omega)]⟩)⟩, mB.of ht hP⟩, hS.F ht⟩) hS.2.2 dX12_readPersonDoes_55
      · refine lv_if_eq (tgt := 54) hx hb dX12_readPersonDoes_47 (by decide) (fun _ => ?_) (fun cc => absurd (by decide) cc)
        refine lv_iconst (v := 0) hx hb dX12_readPersonDoes_54 (by decide) ?_
        exact W.zret (v := 0) hx hb hr rfl (fun t ht hW => ⟨⟨0, (st28, sl29), rfl, ⟨hG, hF, Or.inr (⟨n33, n34, rfl, by show st28 0 10 = _; rw [hf35], by show st28 0 11 = _; rw [hf36], hf37, (bPe_y (by omega)).trans ((bPl_y hf14).trans hf38)⟩)⟩, mB.of ht hP⟩, hS.F ht⟩) hS.2.2 dX12_readPersonDoes_55
    · refine va_calli (va_runV (As := [.int (nI (va + 2)), .int 0]) (rest := []) ⟨hx, hb, hml, hown, hts⟩ (f_keep0 l dC dI ar cy _ hN st9 sl10 (va + 2) (by omega) hG.1 ) (cwV 2 hts gX12_readPersonDoes_X12_keep rfl rfl rfl (by decide +kernel) ⟨Nat.le_of_ble_eq_true rfl, Nat.le_of_ble_eq_true rfl⟩) ⟨fun a U g mk q => ⟨q.1, mPre.blind q.2⟩, va_recv hK hP (ci := 11) (q0 := 0) rfl rfl, fun U hU hW => ⟨rfl, mPre.of hP hK hU hW⟩⟩ rfl rfl hl.1 rfl (lv_room (Nat.le_of_ble_eq_true rfl)) dX12_readPersonDoes_34 ⟨Nat.le_of_ble_eq_true rfl, Nat.le_of_ble_eq_true rfl⟩) hS (fun q _ h => MA.le hS.1 q h) (MA.le hS.1) (fun r39 x t H locs ht hvm hw hB9 _ _ hS => ?_)
      have hP := mB.at ht hB9
      clear hB9 ht hvm
      obtain ⟨rfl, hw⟩ := hw
      have hP : va_P (dC, dI) vwCl (mw ar cy st9 sl10) _ := hP
      obtain rfl := hw
      refine lv_if_eq (tgt := 54) hx hb dX12_readPersonDoes_37 (by decide) (fun _ => ?_) (fun cc => absurd (by decide) cc)
      refine lv_iconst (v := 0) hx hb dX12_readPersonDoes_54 (by decide) ?_
      exact W.zret (v := 0) hx hb hr rfl (fun t ht hW => ⟨⟨0, (st9, sl10), rfl, ⟨hG, hF, Or.inr (⟨n16, n17, rfl, by show st9 0 10 = _; rw [hf18], by show st9 0 11 = _; rw [hf19], hf20, (bPe_y (by omega)).trans (bPl_f hf21 hf20)⟩)⟩, mB.of ht hP⟩, hS.F ht⟩) hS.2.2 dX12_readPersonDoes_55
  · refine lv_if_ne (tgt := 15) hx hb dX12_readPersonDoes_6 (by decide) (fun cc => absurd (by decide) cc) (fun _ => ?_)
    refine lv_aload_n hx hb dX12_readPersonDoes_9 rfl (lv_at hl 0 rfl) ?_
    refine lv_iconst (v := 1) hx hb dX12_readPersonDoes_10 (by decide) ?_
    refine va_calli (va_runV (As := [.int 1]) (rest := []) ⟨hx, hb, hml, hown, hts⟩ (f_bad l dC dI ar cy _ hN st sl 1 B g m p (by omega) hG.1 (MBt.fr hB hF) hT) (cwV 1 hts gX12_readPersonDoes_X12_bad rfl rfl rfl (by decide +kernel) ⟨Nat.le_of_ble_eq_true rfl, Nat.le_of_ble_eq_true rfl⟩) ⟨fun a U g mk q => ⟨q.1, mPre.blind q.2⟩, va_recv hK hP (ci := 11) (q0 := 0) rfl rfl, fun U hU hW => ⟨rfl, mPre.of hP hK hU hW⟩⟩ rfl rfl hl.1 rfl (lv_room (Nat.le_of_ble_eq_true rfl)) dX12_readPersonDoes_11 ⟨Nat.le_of_ble_eq_true rfl, Nat.le_of_ble_eq_true rfl⟩) hS (fun q _ h => MA.le hS.1 q h) (MA.le hS.1) (fun r40 x t H locs ht hvm hw hB9 _ _ hS => ?_)
    have hP := mB.at ht hB9
    clear hB9 ht hvm
    obtain ⟨st41, sl42⟩ := x
    obtain ⟨hG2, hF2, hw⟩ := hw
    dsimp only at hG2 hF2 hw
    have hP : va_P (dC, dI) vwCl (mw ar cy st41 sl42) _ := hP
    have hG : MG [1, 2, 3, 6, 7, 8, 9, 10, 11, 12, 14, 15, 20, 21, 22] st st41 := hG.tr hG2 (by decide)
    have hFst41 : FM 2 st sl st41 sl42 := hF2
    have hF : FM 7 st sl st41 sl42 := hF.tr hFst41 (by omega) (by omega)
    clear hG2 hF2
    have hR : RN c nm st41 sl42 := hR.fr hFst41
    obtain ⟨rfl, hf43, hf44, hT⟩ := hw
    have hp9 := hT.2.2.2.2.2.2
    have hk1 := tkd_lt (B := B) (g := g) (m := m) (p := p)
    have hk2 := tkx_le (B := B) (g := g) (m := m) (p := p) hp9
    have hk3 := tka_le (B := B) (g := g) (m := m) (p := p) hp9 hB.2.2.1
    have hk4 := tkv_lt (p := p) hB hp9
    have hk5 := tkw_lt (B := B) (g := g) (m := m) (p := p)
    exact W.zret (v := 0) hx hb hr rfl (fun t ht hW => ⟨⟨0, (st41, sl42), rfl, ⟨hG, hF, Or.inr (⟨1, (tka B g m p), rfl, by show st41 0 10 = _; rw [hf43, bdk_1], by show st41 0 11 = _; rw [hf44], by omega, bPe_n (by omega)⟩)⟩, mB.of ht hP⟩, hS.F ht⟩) hS.2.2 dX12_readPersonDoes_14
