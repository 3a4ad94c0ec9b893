set_option maxHeartbeats 4000000 in
set_option maxRecDepth 100000 in
theorem f_readPlace (l : Launch) (dC : Nat → ClassId) (dI : Nat → Nat → Nat) (ar : Nat → Nat) (cy : Nat → ClassId) (sz : Nat) (hN : MN ar) (st : Nat → Nat → Int32) (sl : Nat → Nat → Int64) (B : Nat → Nat) (g m : Nat) (p : Nat) (c : Nat → Nat) (nm : Nat → Nat → Nat) (hI : MI st) (hB : MBt B g m st) (hT : TM B g m p st sl) (hR : RT c nm st sl) (hw : tkw B g m p = 0) : Met l yX12_readPlace wsX12_readPlace ({ frames := 4, cells := 0, slots := 0, locals := 90 }) (va_Pc [.ref (ar 0)] (mPre dC dI ar cy sz st sl)) (va_Qi (fun (r : Int32) (x : MT) => MG [1, 2, 3, 6, 7, 8, 9, 10, 11, 12, 13, 14, 15, 20, 21, 22] st x.1 ∧ FM 4 st sl x.1 x.2 ∧ ((∃ c1 : Nat → Nat, ∃ n1 : Nat → Nat → Nat, ∃ q : Nat, r = 1 ∧ RT c1 n1 x.1 x.2 ∧ TM B g m q x.1 x.2 ∧ c1 0 + c1 1 + c1 2 + c1 3 + c1 4 = c 0 + c 1 + c 2 + c 3 + c 4 + 1 ∧ lPlace B g m p c nm = eEnd B g m q (fun p2 => (0, p2, c1, n1))) ∨ (∃ f : Nat, ∃ a : Nat, r = 0 ∧ x.1 0 10 = nI f ∧ x.1 0 11 = nI a ∧ 1 ≤ f ∧ lPlace B g m p c nm = fl f a))) (mB dC dI ar cy) (MA ar sz)) 0 0 (MA ar sz) := by
  refine Met.ofW (cc := cX12_readPlace) (maxL := 1) (ret := (some .boolean)) (by decide) rfl ?_
  intro p9 e s m9 args below meth c9 s₁ B9 hml hv
  obtain ⟨rfl, hsz, hP, hK⟩ := hv
  have hx := B9.exec
  have hb := B9.bytes
  have hr := B9.returns
  have hts := atoms_spec (ws := wsX12_readPlace) B9.pre
  have hown : s.vm.findClass RX12 = some m9.cls := findClass_of_methodNamed B9.named
  subst hsz
  have hS : va_S (MA ar s.heap.size) s.heap s.heap [] := va_S.rf
  have hG : MG [1, 2, 3, 6, 7, 8, 9, 10, 11, 12, 13, 14, 15, 20, 21, 22] st st := MG.rf hI
  have hl := lv_entry ([.ref (ar 0)]) (n := 1) (Nat.le_of_ble_eq_true rfl)
  rw [lg_entry_eq]
  generalize (lg_sl ([.ref (ar 0)]) ++ List.replicate (1 - (lg_sl ([.ref (ar 0)])).length) Slot.unset).toArray = ls at hl ⊢
  have hl : lv_has ls 1 [(0, .ref (ar 0))] := hl
  clear hI
  have hB1 := hB.2.2.1
  have hB2 := hB.2.2.2.1
  have hF : FM 4 st sl st sl := FM.rf
  have hp9 := hT.2.2.2.2.2.2
  have hk1 := tkd_lt (B := B) (g := g) (m := m) (p := p)
  have hk2 := tkx_le (B := B) (g := g) (m := m) (p := p) hp9
  have hk3 := tka_le (B := B) (g := g) (m := m) (p := p) hp9 hB.2.2.1
  have hk4 := tkv_lt (p := p) hB hp9
  have hk5 := tkw_lt (B := B) (g := g) (m := m) (p := p)
  have hR9 := hR.2.2.2.2.2.1
  refine lv_aload_n hx hb dX12_readPlace_0 rfl (lv_at hl 0 rfl) ?_
  refine lv_iconst (v := 0) hx hb dX12_readPlace_1 (by decide) ?_
  refine lv_iconst (v := 5) hx hb dX12_readPlace_2 (by decide) ?_
  refine va_calli (va_runV (As := [.int 0, .int 5]) (rest := []) ⟨hx, hb, hml, hown, hts⟩ (f_readFirst0 l dC dI ar cy _ hN st sl B g m p c nm hG.1 (MBt.fr hB hF) hT hR (by have h9 := @tkw_d B g m p; omega)) (cwV 2 hts gX12_readPlace_X12_readFirst rfl rfl rfl (by decide +kernel) ⟨Nat.le_of_ble_eq_true rfl, Nat.le_of_ble_eq_true rfl⟩) ⟨fun a U g mk q => ⟨q.1, mPre.blind q.2⟩, va_recv hK hP (ci := 11) (q0 := 0) rfl rfl, fun U hU hW => ⟨rfl, mPre.of hP hK hU hW⟩⟩ rfl rfl hl.1 rfl (lv_room (Nat.le_of_ble_eq_true rfl)) dX12_readPlace_3 ⟨Nat.le_of_ble_eq_true rfl, Nat.le_of_ble_eq_true rfl⟩) hS (fun q _ h => MA.le hS.1 q h) (MA.le hS.1) (fun r1 x t H locs ht hvm hw hB9 _ _ hS => ?_)
  have hP := mB.at ht hB9
  clear hB9 ht hvm
  obtain ⟨st2, sl3⟩ := x
  obtain ⟨hG2, hF2, hw⟩ := hw
  dsimp only at hG2 hF2 hw
  have hP : va_P (dC, dI) vwCl (mw ar cy st2 sl3) _ := hP
  have hG : MG [1, 2, 3, 6, 7, 8, 9, 10, 11, 12, 13, 14, 15, 20, 21, 22] st st2 := hG.tr hG2 (by decide)
  have hFst2 : FM 2 st sl st2 sl3 := hF2
  have hF : FM 4 st sl st2 sl3 := hF.tr hFst2 (by omega) (by omega)
  clear hG2 hF2
  have hR : RT c nm st2 sl3 := hR.fr hFst2 (by omega)
  rcases hw with ⟨rfl, hf4, hT⟩ | ⟨rfl, hf5, hf6, hf7⟩
  · have hp9 := hT.2.2.2.2.2.2
    have hk1 := tkd_lt (B := B) (g := g) (m := m) (p := (tkx B g m p))
    have hk2 := tkx_le (B := B) (g := g) (m := m) (p := (tkx B g m p)) hp9
    have hk3 := tka_le (B := B) (g := g) (m := m) (p := (tkx B g m p)) hp9 hB.2.2.1
    have hk4 := tkv_lt (p := (tkx B g m p)) hB hp9
    have hk5 := tkw_lt (B := B) (g := g) (m := m) (p := (tkx B g m p))
    refine lv_if_eq (tgt := 22) hx hb dX12_readPlace_6 (by decide) (fun cc => absurd cc (by decide)) (fun _ => ?_)
    refine lv_aload_n hx hb dX12_readPlace_9 rfl (lv_at hl 0 rfl) ?_
    refine lv_aload_n hx hb dX12_readPlace_10 rfl (lv_at hl 0 rfl) ?_
    refine va_get (D := (dC, dI)) (ci := 11) (v := .ref (ar 3)) (C := RX12) (T := TX12) (N := 47) hx hb hts ii_X12_readPlace hown hK hP 0 rfl rfl 15 (by decide) (hts _ mm_X12_readPlace_1) (fun _ hh => hh) rfl dX12_readPlace_11 ?_
    refine lv_iconst (v := 0) hx hb dX12_readPlace_14 (by decide) ?_
    refine va_iald hx hb hK hP 3 2 rfl rfl (i := 0) (zz_in (by decide)) dX12_readPlace_15 ?_
    refine zz_top (v := (nI (c 0))) (by show st2 3 0 = _; rw [hR.1]) ?_
    refine va_calli (va_runV (As := [.int (nI (c 0))]) (rest := []) ⟨hx, hb, hml, hown, hts⟩ (f_readNew l dC dI ar cy _ hN st2 sl3 (c 0) B g m (tkx B g m p) c nm (by omega) hG.1 (MBt.fr hB hF) hT hR (fun a ha i hi e => hR.free (b := 0) (by decide) ⟨by omega, by omega⟩ a ha i hi (by rw [e]; exact (Nat.zero_add _).symm))) (cwV 1 hts gX12_readPlace_X12_readNew rfl rfl rfl (by decide +kernel) ⟨Nat.le_of_ble_eq_true rfl, Nat.le_of_ble_eq_true rfl⟩) ⟨fun a U g mk q => ⟨q.1, mPre.blind q.2⟩, va_recv hK hP (ci := 11) (q0 := 0) rfl rfl, fun U hU hW => ⟨rfl, mPre.of hP hK hU hW⟩⟩ rfl rfl hl.1 rfl (lv_room (Nat.le_of_ble_eq_true rfl)) dX12_readPlace_16 ⟨Nat.le_of_ble_eq_true rfl, Nat.le_of_ble_eq_true rfl⟩) hS (fun q _ h => MA.le hS.1 q h) (MA.le hS.1) (fun r8 x t H locs ht hvm hw hB9 _ _ hS => ?_)
    have hP := mB.at ht hB9
    clear hB9 ht hvm
    obtain ⟨st9, sl10⟩ := x
    obtain ⟨hG2, hF2, hw⟩ := hw
    dsimp only at hG2 hF2 hw
    have hP : va_P (dC, dI) vwCl (mw ar cy st9 sl10) _ := hP
    have hG : MG [1, 2, 3, 6, 7, 8, 9, 10, 11, 12, 13, 14, 15, 20, 21, 22] st st9 := hG.tr hG2 (by decide)
    have hFst9 : FM 3 st2 sl3 st9 sl10 := hF2
    have hF : FM 4 st sl st9 sl10 := hF.tr hFst9 (by omega) (by omega)
    clear hG2 hF2
    rcases hw with ⟨rfl, hf11, hN9, hf12, hR, hT, hf13⟩ | ⟨n14, n15, rfl, hf16, hf17, hf18, hf19⟩
    · have hp9 := hT.2.2.2.2.2.2
      have hk1 := tkd_lt (B := B) (g := g) (m := m) (p := (tkx B g m (tkx B g m p)))
      have hk2 := tkx_le (B := B) (g := g) (m := m) (p := (tkx B g m (tkx B g m p))) hp9
      have hk3 := tka_le (B := B) (g := g) (m := m) (p := (tkx B g m (tkx B g m p))) hp9 hB.2.2.1
      have hk4 := tkv_lt (p := (tkx B g m (tkx B g m p))) hB hp9
      have hk5 := tkw_lt (B := B) (g := g) (m := m) (p := (tkx B g m (tkx B g m p)))
      refine lv_if_ne (tgt := 24) hx hb dX12_readPlace_19 (by decide) (fun _ => ?_) (fun cc => absurd cc (by decide))
      refine lv_aload_n hx hb dX12_readPlace_24 rfl (lv_at hl 0 rfl) ?_
      refine lv_iconst (v := 1) hx hb dX12_readPlace_25 (by decide) ?_
      refine va_calli (va_runV (As := [.int 1]) (rest := []) ⟨hx, hb, hml, hown, hts⟩ (f_isWord1 l dC dI ar cy _ hN st9 sl10 B g m (tkx B g m (tkx B g m p)) hG.1 (MBt.fr hB hF) hT) (cwV 1 hts gX12_readPlace_X12_isWord rfl rfl rfl (by decide +kernel) ⟨Nat.le_of_ble_eq_true rfl, Nat.le_of_ble_eq_true rfl⟩) ⟨fun a U g mk q => ⟨q.1, mPre.blind q.2⟩, va_recv hK hP (ci := 11) (q0 := 0) rfl rfl, fun U hU hW => ⟨rfl, mPre.of hP hK hU hW⟩⟩ rfl rfl hl.1 rfl (lv_room (Nat.le_of_ble_eq_true rfl)) dX12_readPlace_26 ⟨Nat.le_of_ble_eq_true rfl, Nat.le_of_ble_eq_true rfl⟩) hS (fun q _ h => MA.le hS.1 q h) (MA.le hS.1) (fun r20 x t H locs ht hvm hw hB9 _ _ hS => ?_)
      have hP := mB.at ht hB9
      clear hB9 ht hvm
      obtain ⟨rfl, hw⟩ := hw
      have hP : va_P (dC, dI) vwCl (mw ar cy st9 sl10) _ := hP
      rcases hw with ⟨rfl, hf21⟩ | ⟨rfl, hf22⟩
      · refine lv_if_eq (tgt := 54) hx hb dX12_readPlace_29 (by decide) (fun cc => absurd cc (by decide)) (fun _ => ?_)
        refine lv_aload_n hx hb dX12_readPlace_32 rfl (lv_at hl 0 rfl) ?_
        refine va_get (D := (dC, dI)) (ci := 11) (v := .ref (ar 3)) (C := RX12) (T := TX12) (N := 47) hx hb hts ii_X12_readPlace hown hK hP 0 rfl rfl 15 (by decide) (hts _ mm_X12_readPlace_1) (fun _ hh => hh) rfl dX12_readPlace_33 ?_
        refine lv_bipush (v := 9) hx hb dX12_readPlace_36 (by decide) ?_
        refine lv_dup2_11 hx hb dX12_readPlace_38 rfl rfl ?_
        refine va_iald hx hb hK hP 3 2 rfl rfl (i := 9) (zz_in (by decide)) dX12_readPlace_39 ?_
        refine lv_topi (fun z23 ez23 => ?_)
        refine lv_iconst (v := 1) hx hb dX12_readPlace_40 (by decide) ?_
        refine lv_aload_n hx hb dX12_readPlace_41 rfl (lv_at hl 0 rfl) ?_
        refine va_get (D := (dC, dI)) (ci := 11) (v := .ref (ar 3)) (C := RX12) (T := TX12) (N := 47) hx hb hts ii_X12_readPlace hown hK hP 0 rfl rfl 15 (by decide) (hts _ mm_X12_readPlace_1) (fun _ hh => hh) rfl dX12_readPlace_42 ?_
        refine lv_iconst (v := 0) hx hb dX12_readPlace_45 (by decide) ?_
        refine va_iald hx hb hK hP 3 2 rfl rfl (i := 0) (zz_in (by decide)) dX12_readPlace_46 ?_
        refine zz_top (v := (nI (c 0))) (by show st9 3 0 = _; rw [hR.1]) ?_
        refine lv_ishl hx hb dX12_readPlace_47 ?_
        refine lv_topi (fun z24 ez24 => ?_)
        refine lv_ior hx hb dX12_readPlace_48 ?_
        refine lv_topi (fun z25 ez25 => ?_)
        refine va_iast hx hb hK hP (mD hN _ _ _ _) hS 3 2 rfl rfl (i := 9) (zz_in (by decide)) dX12_readPlace_49 (fun H locs hP _ hS => ?_)
        have hP : va_P (dC, dI) vwCl (mw ar cy (up2 st9 3 9 z25) sl10) H := hP
        obtain ⟨st26, est26⟩ : ∃ y, y = up2 st9 3 9 z25 := ⟨_, rfl⟩
        have hG : MG [1, 2, 3, 6, 7, 8, 9, 10, 11, 12, 13, 14, 15, 20, 21, 22] st st26 := by rw [est26]; exact hG.up (rz (by decide : mr 3 9 = 0)) (pn (by decide : pcl 3 9 = 0) (by decide))
        rw [← est26] at hP
        have hF : FM 4 st sl st26 sl10 := by rw [est26]; exact hF.up (by decide)
        have hT : TM B g m (tkx B g m (tkx B g m p)) st26 sl10 := by rw [est26]; exact hT.up (by omega)
        have hR : RT c nm st26 sl10 := by rw [est26]; exact hR.up3 (by omega)
        refine lv_aload_n hx hb dX12_readPlace_50 rfl (lv_at hl 0 rfl) ?_
        refine va_callv (va_runV (As := []) (rest := []) ⟨hx, hb, hml, hown, hts⟩ (f_go l dC dI ar cy _ hN st26 sl10 B g m (tkx B g m (tkx B g m (tkx B g m p))) hG.1 (MBt.fr hB hF) hT.1 hk2.2) (cwV 0 hts gX12_readPlace_X12_go rfl rfl rfl (by decide +kernel) ⟨Nat.le_of_ble_eq_true rfl, Nat.le_of_ble_eq_true rfl⟩) ⟨fun a U g mk q => ⟨q.1, mPre.blind q.2⟩, va_recv hK hP (ci := 11) (q0 := 0) rfl rfl, fun U hU hW => ⟨rfl, mPre.of hP hK hU hW⟩⟩ rfl rfl hl.1 rfl (lv_room (Nat.le_of_ble_eq_true rfl)) dX12_readPlace_51 ⟨Nat.le_of_ble_eq_true rfl, Nat.le_of_ble_eq_true rfl⟩) hS (fun q _ h => MA.le hS.1 q h) (MA.le hS.1) (fun x t H locs ht hvm hw hB9 _ _ hS => ?_)
        have hP := mB.at ht hB9
        clear hB9 ht hvm
        obtain ⟨st28, sl29⟩ := x
        obtain ⟨hG2, hF2, hw⟩ := hw
        dsimp only at hG2 hF2 hw
        have hP : va_P (dC, dI) vwCl (mw ar cy st28 sl29) _ := hP
        have hG : MG [1, 2, 3, 6, 7, 8, 9, 10, 11, 12, 13, 14, 15, 20, 21, 22] st st28 := hG.tr hG2 (by decide)
        have hFst28 : FM 1 st26 sl10 st28 sl29 := hF2
        have hF : FM 4 st sl st28 sl29 := hF.tr hFst28 (by omega) (by omega)
        clear hG2 hF2
        have hR : RT c nm st28 sl29 := hR.fr hFst28 (by omega)
        have hN9 : sl29 8 (c 0) = lN (c7 7 (tkc B g (tkx B g m p))) := by rw [(hFst28 8 _ (dm_8 (by omega) _)).2]; exact hN9
        have hT := hw
        have hp9 := hT.2.2.2.2.2.2
        have hk1 := tkd_lt (B := B) (g := g) (m := m) (p := (tkx B g m (tkx B g m (tkx B g m p))))
        have hk2 := tkx_le (B := B) (g := g) (m := m) (p := (tkx B g m (tkx B g m (tkx B g m p)))) hp9
        have hk3 := tka_le (B := B) (g := g) (m := m) (p := (tkx B g m (tkx B g m (tkx B g m p)))) hp9 hB.2.2.1
        have hk4 := tkv_lt (p := (tkx B g m (tkx B g m (tkx B g m p)))) hB hp9
        have hk5 := tkw_lt (B := B) (g := g) (m := m) (p := (tkx B g m (tkx B g m (tkx B g m p))))
        refine lv_aload_n hx hb dX12_readPlace_54 rfl (lv_at hl 0 rfl) ?_
        refine va_get (D := (dC, dI)) (ci := 11) (v := .ref (ar 3)) (C := RX12) (T := TX12) (N := 47) hx hb hts ii_X12_readPlace hown hK hP 0 rfl rfl 15 (by decide) (hts _ mm_X12_readPlace_1) (fun _ hh => hh) rfl dX12_readPlace_55 ?_
        refine lv_iconst (v := 0) hx hb dX12_readPlace_58 (by decide) ?_
        refine lv_dup2_11 hx hb dX12_readPlace_59 rfl rfl ?_
        refine va_iald hx hb hK hP 3 2 rfl rfl (i := 0) (zz_in (by decide)) dX12_readPlace_60 ?_
        refine zz_top (v := (nI (c 0))) (by show st28 3 0 = _; rw [hR.1]) ?_
        refine lv_iconst (v := 1) hx hb dX12_readPlace_61 (by decide) ?_
        refine lv_iadd hx hb dX12_readPlace_62 ?_
        refine zz_top (v := nI ((c 0) + 1)) (nI_add (c 0) 1) ?_
        refine va_iast hx hb hK hP (mD hN _ _ _ _) hS 3 2 rfl rfl (i := 0) (zz_in (by decide)) dX12_readPlace_63 (fun H locs hP _ hS => ?_)
        have hP : va_P (dC, dI) vwCl (mw ar cy (up2 st28 3 0 (nI ((c 0) + 1))) sl29) H := hP
        obtain ⟨st30, est30⟩ : ∃ y, y = up2 st28 3 0 (nI ((c 0) + 1)) := ⟨_, rfl⟩
        have hG : MG [1, 2, 3, 6, 7, 8, 9, 10, 11, 12, 13, 14, 15, 20, 21, 22] st st30 := by rw [est30]; exact hG.up (rn (n := ((c 0) + 1)) (by decide : mr 3 0 = 6) (by omega)) (pn (by decide : pcl 3 0 = 19) (by decide))
        rw [← est30] at hP
        have hF : FM 4 st sl st30 sl29 := by rw [est30]; exact hF.up (by decide)
        have hT : TM B g m (tkx B g m (tkx B g m (tkx B g m p))) st30 sl29 := by rw [est30]; exact hT.up (by omega)
        have hR : RT (uN c 0 (c 0 + 1)) (uM nm 0 (c 0) (tkc B g (tkx B g m p))) st30 sl29 := by rw [est30]; exact hR.inc (a := 0) (by decide) ⟨by omega, by omega, by omega⟩ hf12 (by rw [show bs 0 + c 0 = c 0 from Nat.zero_add _]; exact hN9)
        refine lv_iconst (v := 1) hx hb dX12_readPlace_64 (by decide) ?_
        exact W.zret (v := 1) hx hb hr rfl (fun t ht hW => ⟨⟨1, (st30, sl29), rfl, ⟨hG, hF, Or.inl (⟨(uN c 0 (c 0 + 1)), (uM nm 0 (c 0) (tkc B g (tkx B g m p))), (tkx B g m (tkx B g m (tkx B g m p))), rfl, hR, hT, uN_sum (a := 0) (by decide) rfl, by unfold lPlace; rw [if_neg hf4, hf13, if_pos hf21]⟩)⟩, mB.of ht hP⟩, hS.F ht⟩) hS.2.2 dX12_readPlace_65
      · refine lv_if_eq (tgt := 54) hx hb dX12_readPlace_29 (by decide) (fun _ => ?_) (fun cc => absurd (by decide) cc)
        refine lv_aload_n hx hb dX12_readPlace_54 rfl (lv_at hl 0 rfl) ?_
        refine va_get (D := (dC, dI)) (ci := 11) (v := .ref (ar 3)) (C := RX12) (T := TX12) (N := 47) hx hb hts ii_X12_readPlace hown hK hP 0 rfl rfl 15 (by decide) (hts _ mm_X12_readPlace_1) (fun _ hh => hh) rfl dX12_readPlace_55 ?_
        refine lv_iconst (v := 0) hx hb dX12_readPlace_58 (by decide) ?_
        refine lv_dup2_11 hx hb dX12_readPlace_59 rfl rfl ?_
        refine va_iald hx hb hK hP 3 2 rfl rfl (i := 0) (zz_in (by decide)) dX12_readPlace_60 ?_
        refine zz_top (v := (nI (c 0))) (by show st9 3 0 = _; rw [hR.1]) ?_
        refine lv_iconst (v := 1) hx hb dX12_readPlace_61 (by decide) ?_
        refine lv_iadd hx hb dX12_readPlace_62 ?_
        refine zz_top (v := nI ((c 0) + 1)) (nI_add (c 0) 1) ?_
        refine va_iast hx hb hK hP (mD hN _ _ _ _) hS 3 2 rfl rfl (i := 0) (zz_in (by decide)) dX12_readPlace_63 (fun H locs hP _ hS => ?_)
        have hP : va_P (dC, dI) vwCl (mw ar cy (up2 st9 3 0 (nI ((c 0) + 1))) sl10) H := hP
        obtain ⟨st31, est31⟩ : ∃ y, y = up2 st9 3 0 (nI ((c 0) + 1)) := ⟨_, rfl⟩
        have hG : MG [1, 2, 3, 6, 7, 8, 9, 10, 11, 12, 13, 14, 15, 20, 21, 22] st st31 := by rw [est31]; exact hG.up (rn (n := ((c 0) + 1)) (by decide : mr 3 0 = 6) (by omega)) (pn (by decide : pcl 3 0 = 19) (by decide))
        rw [← est31] at hP
        have hF : FM 4 st sl st31 sl10 := by rw [est31]; exact hF.up (by decide)
        have hT : TM B g m (tkx B g m (tkx B g m p)) st31 sl10 := by rw [est31]; exact hT.up (by omega)
        have hR : RT (uN c 0 (c 0 + 1)) (uM nm 0 (c 0) (tkc B g (tkx B g m p))) st31 sl10 := by rw [est31]; exact hR.inc (a := 0) (by decide) ⟨by omega, by omega, by omega⟩ hf12 (by rw [show bs 0 + c 0 = c 0 from Nat.zero_add _]; exact hN9)
        refine lv_iconst (v := 1) hx hb dX12_readPlace_64 (by decide) ?_
        exact W.zret (v := 1) hx hb hr rfl (fun t ht hW => ⟨⟨1, (st31, sl10), rfl, ⟨hG, hF, Or.inl (⟨(uN c 0 (c 0 + 1)), (uM nm 0 (c 0) (tkc B g (tkx B g m p))), (tkx B g m (tkx B g m p)), rfl, hR, hT, uN_sum (a := 0) (by decide) rfl, by unfold lPlace; rw [if_neg hf4, hf13, if_neg hf22]⟩)⟩, mB.of ht hP⟩, hS.F ht⟩) hS.2.2 dX12_readPlace_65
    · refine lv_if_ne (tgt := 24) hx hb dX12_readPlace_19 (by decide) (fun cc => absurd (by decide) cc) (fun _ => ?_)
      refine lv_iconst (v := 0) hx hb dX12_readPlace_22 (by decide) ?_
      exact W.zret (v := 0) hx hb hr rfl (fun t ht hW => ⟨⟨0, (st9, sl10), rfl, ⟨hG, hF, Or.inr (⟨n14, n15, rfl, by show st9 0 10 = _; rw [hf16], by show st9 0 11 = _; rw [hf17], by omega, by unfold lPlace; rw [if_neg hf4, hf19]⟩)⟩, mB.of ht hP⟩, hS.F ht⟩) hS.2.2 dX12_readPlace_23
  · refine lv_if_eq (tgt := 22) hx hb dX12_readPlace_6 (by decide) (fun _ => ?_) (fun cc => absurd (by decide) cc)
    refine lv_iconst (v := 0) hx hb dX12_readPlace_22 (by decide) ?_
    exact W.zret (v := 0) hx hb hr rfl (fun t ht hW => ⟨⟨0, (st2, sl3), rfl, ⟨hG, hF, Or.inr (⟨4, (tka B g m p), rfl, by show st2 0 10 = _; rw [hf6], by show st2 0 11 = _; rw [hf7], by omega, by unfold lPlace; rw [if_pos hf5]⟩)⟩, mB.of ht hP⟩, hS.F ht⟩) hS.2.2 dX12_readPlace_23
set_option maxHeartbeats 4000000 in
set_option maxRecDepth 100000 in
theorem f_readPerson (l : Launch) (dC : Nat → ClassId) (dI : Nat → Nat → Nat) (ar : Nat → Nat) (cy : Nat → ClassId) (sz : Nat) (hN : MN ar) (st : Nat → Nat → Int32) (sl : Nat → Nat → Int64) (B : Nat → Nat) (g m : Nat) (p : Nat) (c : Nat → Nat) (nm : Nat → Nat → Nat) (hI : MI st) (hB : MBt B g m st) (hT : TM B g m p st sl) (hR : RT c nm st sl) (hw : tkw B g m p = 2) : Met l yX12_readPerson wsX12_readPerson ({ frames := 4, cells := 0, slots := 0, locals := 91 }) (va_Pc [.ref (ar 0)] (mPre dC dI ar cy sz st sl)) (va_Qi (fun (r : Int32) (x : MT) => MG [1, 2, 3, 6, 7, 8, 9, 10, 11, 12, 13, 14, 15, 20, 21, 22] st x.1 ∧ FM 4 st sl x.1 x.2 ∧ ((∃ c1 : Nat → Nat, ∃ n1 : Nat → Nat → Nat, ∃ q : Nat, r = 1 ∧ RT c1 n1 x.1 x.2 ∧ TM B g m q x.1 x.2 ∧ c1 0 + c1 1 + c1 2 + c1 3 + c1 4 = c 0 + c 1 + c 2 + c 3 + c 4 + 1 ∧ lPerson B g m p c nm = eEnd B g m q (fun p2 => (0, p2, c1, n1))) ∨ (∃ f : Nat, ∃ a : Nat, r = 0 ∧ x.1 0 10 = nI f ∧ x.1 0 11 = nI a ∧ 1 ≤ f ∧ lPerson B g m p c nm = fl f a))) (mB dC dI ar cy) (MA ar sz)) 0 0 (MA ar sz) := by
  refine Met.ofW (cc := cX12_readPerson) (maxL := 2) (ret := (some .boolean)) (by decide) rfl ?_
  intro p9 e s m9 args below meth c9 s₁ B9 hml hv
  obtain ⟨rfl, hsz, hP, hK⟩ := hv
  have hx := B9.exec
  have hb := B9.bytes
  have hr := B9.returns
  have hts := atoms_spec (ws := wsX12_readPerson) B9.pre
  have hown : s.vm.findClass RX12 = some m9.cls := findClass_of_methodNamed B9.named
  subst hsz
  have hS : va_S (MA ar s.heap.size) s.heap s.heap [] := va_S.rf
  have hG : MG [1, 2, 3, 6, 7, 8, 9, 10, 11, 12, 13, 14, 15, 20, 21, 22] st st := MG.rf hI
  have hl := lv_entry ([.ref (ar 0)]) (n := 2) (Nat.le_of_ble_eq_true rfl)
  rw [lg_entry_eq]
  generalize (lg_sl ([.ref (ar 0)]) ++ List.replicate (2 - (lg_sl ([.ref (ar 0)])).length) Slot.unset).toArray = ls at hl ⊢
  have hl : lv_has ls 2 [(0, .ref (ar 0))] := hl
  clear hI
  have hB1 := hB.2.2.1
  have hB2 := hB.2.2.2.1
  have hF : FM 4 st sl st sl := FM.rf
  have hp9 := hT.2.2.2.2.2.2
  have hk1 := tkd_lt (B := B) (g := g) (m := m) (p := p)
  have hk2 := tkx_le (B := B) (g := g) (m := m) (p := p) hp9
  have hk3 := tka_le (B := B) (g := g) (m := m) (p := p) hp9 hB.2.2.1
  have hk4 := tkv_lt (p := p) hB hp9
  have hk5 := tkw_lt (B := B) (g := g) (m := m) (p := p)
  have hR9 := hR.2.2.2.2.2.1
  refine lv_aload_n hx hb dX12_readPerson_0 rfl (lv_at hl 0 rfl) ?_
  refine lv_iconst (v := 1) hx hb dX12_readPerson_1 (by decide) ?_
  refine lv_bipush (v := 8) hx hb dX12_readPerson_2 (by decide) ?_
  refine va_calli (va_runV (As := [.int 1, .int 8]) (rest := []) ⟨hx, hb, hml, hown, hts⟩ (f_readFirst1 l dC dI ar cy _ hN st sl B g m p c nm hG.1 (MBt.fr hB hF) hT hR (by have h9 := @tkw_d B g m p; omega)) (cwV 2 hts gX12_readPerson_X12_readFirst rfl rfl rfl (by decide +kernel) ⟨Nat.le_of_ble_eq_true rfl, Nat.le_of_ble_eq_true rfl⟩) ⟨fun a U g mk q => ⟨q.1, mPre.blind q.2⟩, va_recv hK hP (ci := 11) (q0 := 0) rfl rfl, fun U hU hW => ⟨rfl, mPre.of hP hK hU hW⟩⟩ rfl rfl hl.1 rfl (lv_room (Nat.le_of_ble_eq_true rfl)) dX12_readPerson_4 ⟨Nat.le_of_ble_eq_true rfl, Nat.le_of_ble_eq_true rfl⟩) hS (fun q _ h => MA.le hS.1 q h) (MA.le hS.1) (fun r1 x t H locs ht hvm hw hB9 _ _ hS => ?_)
  have hP := mB.at ht hB9
  clear hB9 ht hvm
  obtain ⟨st2, sl3⟩ := x
  obtain ⟨hG2, hF2, hw⟩ := hw
  dsimp only at hG2 hF2 hw
  have hP : va_P (dC, dI) vwCl (mw ar cy st2 sl3) _ := hP
  have hG : MG [1, 2, 3, 6, 7, 8, 9, 10, 11, 12, 13, 14, 15, 20, 21, 22] st st2 := hG.tr hG2 (by decide)
  have hFst2 : FM 2 st sl st2 sl3 := hF2
  have hF : FM 4 st sl st2 sl3 := hF.tr hFst2 (by omega) (by omega)
  clear hG2 hF2
  have hR : RT c nm st2 sl3 := hR.fr hFst2 (by omega)
  rcases hw with ⟨rfl, hf4, hT⟩ | ⟨rfl, hf5, hf6, hf7⟩
  · have hp9 := hT.2.2.2.2.2.2
    have hk1 := tkd_lt (B := B) (g := g) (m := m) (p := (tkx B g m p))
    have hk2 := tkx_le (B := B) (g := g) (m := m) (p := (tkx B g m p)) hp9
    have hk3 := tka_le (B := B) (g := g) (m := m) (p := (tkx B g m p)) hp9 hB.2.2.1
    have hk4 := tkv_lt (p := (tkx B g m p)) hB hp9
    have hk5 := tkw_lt (B := B) (g := g) (m := m) (p := (tkx B g m p))
    refine lv_if_ne (tgt := 12) hx hb dX12_readPerson_7 (by decide) (fun _ => ?_) (fun cc => absurd cc (by decide))
    refine lv_aload_n hx hb dX12_readPerson_12 rfl (lv_at hl 0 rfl) ?_
    refine va_get (D := (dC, dI)) (ci := 11) (v := .ref (ar 3)) (C := RX12) (T := TX12) (N := 47) hx hb hts ii_X12_readPerson hown hK hP 0 rfl rfl 15 (by decide) (hts _ mm_X12_readPerson_1) (fun _ hh => hh) rfl dX12_readPerson_13 ?_
    refine lv_iconst (v := 1) hx hb dX12_readPerson_16 (by decide) ?_
    refine va_iald hx hb hK hP 3 2 rfl rfl (i := 1) (zz_in (by decide)) dX12_readPerson_17 ?_
    refine zz_top (v := (nI (c 1))) (by show st2 3 1 = _; rw [hR.2.1]) ?_
    refine lv_istore_n (lv' := [(1, .int (nI (c 1))), (0, .ref (ar 0))]) hx hb dX12_readPerson_18 rfl hl (by decide) rfl (fun ls hl => ?_)
    refine lv_aload_n hx hb dX12_readPerson_19 rfl (lv_at hl 1 rfl) ?_
    refine lv_iconst (v := 5) hx hb dX12_readPerson_20 (by decide) ?_
    refine lv_iload_n hx hb dX12_readPerson_21 rfl (lv_at hl 0 rfl) ?_
    refine lv_iadd hx hb dX12_readPerson_22 ?_
    refine zz_top (v := nI (5 + (c 1))) (nI_add 5 (c 1)) ?_
    refine va_calli (va_runV (As := [.int (nI (5 + (c 1)))]) (rest := []) ⟨hx, hb, hml, hown, hts⟩ (f_readNew l dC dI ar cy _ hN st2 sl3 (5 + (c 1)) B g m (tkx B g m p) c nm (by omega) hG.1 (MBt.fr hB hF) hT hR (fun a9 ha i hi e => hR.free (b := 1) (by decide) ⟨by omega, by omega⟩ a9 ha i hi (by rw [e]; rfl))) (cwV 1 hts gX12_readPerson_X12_readNew rfl rfl rfl (by decide +kernel) ⟨Nat.le_of_ble_eq_true rfl, Nat.le_of_ble_eq_true rfl⟩) ⟨fun a U g mk q => ⟨q.1, mPre.blind q.2⟩, va_recv hK hP (ci := 11) (q0 := 0) rfl rfl, fun U hU hW => ⟨rfl, mPre.of hP hK hU hW⟩⟩ rfl rfl hl.1 rfl (lv_room (Nat.le_of_ble_eq_true rfl)) dX12_readPerson_23 ⟨Nat.le_of_ble_eq_true rfl, Nat.le_of_ble_eq_true rfl⟩) hS (fun q _ h => MA.le hS.1 q h) (MA.le hS.1) (fun r8 x t H locs ht hvm hw hB9 _ _ hS => ?_)
    have hP := mB.at ht hB9
    clear hB9 ht hvm
    obtain ⟨st9, sl10⟩ := x
    obtain ⟨hG2, hF2, hw⟩ := hw
    dsimp only at hG2 hF2 hw
    have hP : va_P (dC, dI) vwCl (mw ar cy st9 sl10) _ := hP
    have hG : MG [1, 2, 3, 6, 7, 8, 9, 10, 11, 12, 13, 14, 15, 20, 21, 22] st st9 := hG.tr hG2 (by decide)
    have hFst9 : FM 3 st2 sl3 st9 sl10 := hF2
    have hF : FM 4 st sl st9 sl10 := hF.tr hFst9 (by omega) (by omega)
    clear hG2 hF2
    rcases hw with ⟨rfl, hf11, hN9, hf12, hR, hT, hf13⟩ | ⟨n14, n15, rfl, hf16, hf17, hf18, hf19⟩
    · have hp9 := hT.2.2.2.2.2.2
      have hk1 := tkd_lt (B := B) (g := g) (m := m) (p := (tkx B g m (tkx B g m p)))
      have hk2 := tkx_le (B := B) (g := g) (m := m) (p := (tkx B g m (tkx B g m p))) hp9
      have hk3 := tka_le (B := B) (g := g) (m := m) (p := (tkx B g m (tkx B g m p))) hp9 hB.2.2.1
      have hk4 := tkv_lt (p := (tkx B g m (tkx B g m p))) hB hp9
      have hk5 := tkw_lt (B := B) (g := g) (m := m) (p := (tkx B g m (tkx B g m p)))
      refine lv_if_eq (tgt := 51) hx hb dX12_readPerson_26 (by decide) (fun cc => absurd cc (by decide)) (fun _ => ?_)
      refine lv_aload_n hx hb dX12_readPerson_29 rfl (lv_at hl 1 rfl) ?_
      refine lv_bipush (v := 10) hx hb dX12_readPerson_30 (by decide) ?_
      refine lv_iload_n hx hb dX12_readPerson_32 rfl (lv_at hl 0 rfl) ?_
      refine lv_iadd hx hb dX12_readPerson_33 ?_
      refine zz_top (v := nI (10 + (c 1))) (nI_add 10 (c 1)) ?_
      refine lv_aload_n hx hb dX12_readPerson_34 rfl (lv_at hl 1 rfl) ?_
      refine lv_iconst (v := 0) hx hb dX12_readPerson_35 (by decide) ?_
      refine lv_aload_n hx hb dX12_readPerson_36 rfl (lv_at hl 1 rfl) ?_
      refine va_get (D := (dC, dI)) (ci := 11) (v := .ref (ar 3)) (C := RX12) (T := TX12) (N := 47) hx hb hts ii_X12_readPerson hown hK hP 0 rfl rfl 15 (by decide) (hts _ mm_X12_readPerson_1) (fun _ hh => hh) rfl dX12_readPerson_37 ?_
      refine lv_iconst (v := 0) hx hb dX12_readPerson_40 (by decide) ?_
      refine va_iald hx hb hK hP 3 2 rfl rfl (i := 0) (zz_in (by decide)) dX12_readPerson_41 ?_
      refine zz_top (v := (nI (c 0))) (by show st9 3 0 = _; rw [hR.1]) ?_
      refine va_calli (va_runV (As := [.int 0, .int (nI (c 0))]) (rest := [.int (nI (10 + (c 1))), .ref (ar 0)]) ⟨hx, hb, hml, hown, hts⟩ (f_readOne0 l dC dI ar cy _ hN st9 sl10 (c 0) B g m (tkx B g m (tkx B g m p)) c nm (by omega) hG.1 (MBt.fr hB hF) hT hR (by omega)) (cwV 2 hts gX12_readPerson_X12_readOne rfl rfl rfl (by decide +kernel) ⟨Nat.le_of_ble_eq_true rfl, Nat.le_of_ble_eq_true rfl⟩) ⟨fun a U g mk q => ⟨q.1, mPre.blind q.2⟩, va_recv hK hP (ci := 11) (q0 := 0) rfl rfl, fun U hU hW => ⟨rfl, mPre.of hP hK hU hW⟩⟩ rfl rfl hl.1 rfl (lv_room (Nat.le_of_ble_eq_true rfl)) dX12_readPerson_42 ⟨Nat.le_of_ble_eq_true rfl, Nat.le_of_ble_eq_true rfl⟩) hS (fun q _ h => MA.le hS.1 q h) (MA.le hS.1) (fun r20 x t H locs ht hvm hw hB9 _ _ hS => ?_)
      have hP := mB.at ht hB9
      clear hB9 ht hvm
      obtain ⟨st21, sl22⟩ := x
      obtain ⟨hG2, hF2, hw⟩ := hw
      dsimp only at hG2 hF2 hw
      have hP : va_P (dC, dI) vwCl (mw ar cy st21 sl22) _ := hP
      have hG : MG [1, 2, 3, 6, 7, 8, 9, 10, 11, 12, 13, 14, 15, 20, 21, 22] st st21 := hG.tr hG2 (by decide)
      have hFst21 : FM 2 st9 sl10 st21 sl22 := hF2
      have hF : FM 4 st sl st21 sl22 := hF.tr hFst21 (by omega) (by omega)
      clear hG2 hF2
      have hR : RT c nm st21 sl22 := hR.fr hFst21 (by omega)
      have hN9 : sl22 8 (5 + (c 1)) = lN (c7 7 (tkc B g (tkx B g m p))) := by rw [(hFst21 8 _ (dm_8 (by omega) _)).2]; exact hN9
      rcases hw with ⟨n23, rfl, hf24, hf25, hT, hf26⟩ | ⟨n27, n28, rfl, hf29, hf30, hf31, hf32⟩
      · have hp9 := hT.2.2.2.2.2.2
        have hk1 := tkd_lt (B := B) (g := g) (m := m) (p := (tkx B g m (tkx B g m (tkx B g m p))))
        have hk2 := tkx_le (B := B) (g := g) (m := m) (p := (tkx B g m (tkx B g m (tkx B g m p)))) hp9
        have hk3 := tka_le (B := B) (g := g) (m := m) (p := (tkx B g m (tkx B g m (tkx B g m p)))) hp9 hB.2.2.1
        have hk4 := tkv_lt (p := (tkx B g m (tkx B g m (tkx B g m p)))) hB hp9
        have hk5 := tkw_lt (B := B) (g := g) (m := m) (p := (tkx B g m (tkx B g m (tkx B g m p))))
        refine va_calli (va_runV (As := [.int (nI (10 + (c 1))), .int 1]) (rest := []) ⟨hx, hb, hml, hown, hts⟩ (f_put10 l dC dI ar cy _ hN st21 sl22 (10 + (c 1)) B g m (tkx B g m (tkx B g m (tkx B g m p))) c nm n23 (by omega) (by omega) hG.1 (MBt.fr hB hF) hT hR (by rw [hf25]) (by omega)) (cwV 2 hts gX12_readPerson_X12_put rfl rfl rfl (by decide +kernel) ⟨Nat.le_of_ble_eq_true rfl, Nat.le_of_ble_eq_true rfl⟩) ⟨fun a U g mk q => ⟨q.1, mPre.blind q.2⟩, va_recv hK hP (ci := 11) (q0 := 0) rfl rfl, fun U hU hW => ⟨rfl, mPre.of hP hK hU hW⟩⟩ rfl rfl hl.1 rfl (lv_room (Nat.le_of_ble_eq_true rfl)) dX12_readPerson_45 ⟨Nat.le_of_ble_eq_true rfl, Nat.le_of_ble_eq_true rfl⟩) hS (fun q _ h => MA.le hS.1 q h) (MA.le hS.1) (fun r33 x t H locs ht hvm hw hB9 _ _ hS => ?_)
        have hP := mB.at ht hB9
        clear hB9 ht hvm
        obtain ⟨st34, sl35⟩ := x
        obtain ⟨hG2, hF2, hw⟩ := hw
        dsimp only at hG2 hF2 hw
        have hP : va_P (dC, dI) vwCl (mw ar cy st34 sl35) _ := hP
        have hG : MG [1, 2, 3, 6, 7, 8, 9, 10, 11, 12, 13, 14, 15, 20, 21, 22] st st34 := hG.tr hG2 (by decide)
        have hFst34 : FM 4 st21 sl22 st34 sl35 := hF2
        have hF : FM 4 st sl st34 sl35 := hF.tr hFst34 (by omega) (by omega)
        clear hG2 hF2
        obtain ⟨rfl, hf36, hf37, hR, hT⟩ := hw
        have hN9 : sl35 8 (5 + (c 1)) = lN (c7 7 (tkc B g (tkx B g m p))) := by rw [hf36]; exact hN9
        have hp9 := hT.2.2.2.2.2.2
        have hk1 := tkd_lt (B := B) (g := g) (m := m) (p := (tkx B g m (tkx B g m (tkx B g m p))))
        have hk2 := tkx_le (B := B) (g := g) (m := m) (p := (tkx B g m (tkx B g m (tkx B g m p)))) hp9
        have hk3 := tka_le (B := B) (g := g) (m := m) (p := (tkx B g m (tkx B g m (tkx B g m p)))) hp9 hB.2.2.1
        have hk4 := tkv_lt (p := (tkx B g m (tkx B g m (tkx B g m p)))) hB hp9
        have hk5 := tkw_lt (B := B) (g := g) (m := m) (p := (tkx B g m (tkx B g m (tkx B g m p))))
        refine lv_if_ne (tgt := 53) hx hb dX12_readPerson_48 (by decide) (fun _ => ?_) (fun cc => absurd cc (by decide))
        refine lv_aload_n hx hb dX12_readPerson_53 rfl (lv_at hl 1 rfl) ?_
        refine lv_bipush (v := 18) hx hb dX12_readPerson_54 (by decide) ?_
        refine lv_iload_n hx hb dX12_readPerson_56 rfl (lv_at hl 0 rfl) ?_
        refine lv_iadd hx hb dX12_readPerson_57 ?_
        refine zz_top (v := nI (18 + (c 1))) (nI_add 18 (c 1)) ?_
        refine lv_aload_n hx hb dX12_readPerson_58 rfl (lv_at hl 1 rfl) ?_
        refine lv_iconst (v := 0) hx hb dX12_readPerson_59 (by decide) ?_
        refine lv_bipush (v := 23) hx hb dX12_readPerson_60 (by decide) ?_
        refine va_calli (va_runV (As := [.int 0, .int 23]) (rest := [.int (nI (18 + (c 1))), .ref (ar 0)]) ⟨hx, hb, hml, hown, hts⟩ (f_readNumber l dC dI ar cy _ hN st34 sl35 0 23 B g m (tkx B g m (tkx B g m (tkx B g m p))) (by omega) (by omega) hG.1 (MBt.fr hB hF) hT) (cwV 2 hts gX12_readPerson_X12_readNumber rfl rfl rfl (by decide +kernel) ⟨Nat.le_of_ble_eq_true rfl, Nat.le_of_ble_eq_true rfl⟩) ⟨fun a U g mk q => ⟨q.1, mPre.blind q.2⟩, va_recv hK hP (ci := 11) (q0 := 0) rfl rfl, fun U hU hW => ⟨rfl, mPre.of hP hK hU hW⟩⟩ rfl rfl hl.1 rfl (lv_room (Nat.le_of_ble_eq_true rfl)) dX12_readPerson_62 ⟨Nat.le_of_ble_eq_true rfl, Nat.le_of_ble_eq_true rfl⟩) hS (fun q _ h => MA.le hS.1 q h) (MA.le hS.1) (fun r38 x t H locs ht hvm hw hB9 _ _ hS => ?_)
        have hP := mB.at ht hB9
        clear hB9 ht hvm
        obtain ⟨st39, sl40⟩ := x
        obtain ⟨hG2, hF2, hw⟩ := hw
        dsimp only at hG2 hF2 hw
        have hP : va_P (dC, dI) vwCl (mw ar cy st39 sl40) _ := hP
        have hG : MG [1, 2, 3, 6, 7, 8, 9, 10, 11, 12, 13, 14, 15, 20, 21, 22] st st39 := hG.tr hG2 (by decide)
        have hFst39 : FM 2 st34 sl35 st39 sl40 := hF2
        have hF : FM 4 st sl st39 sl40 := hF.tr hFst39 (by omega) (by omega)
        clear hG2 hF2
        have hR : RT c nm st39 sl40 := hR.fr hFst39 (by omega)
        have hN9 : sl40 8 (5 + (c 1)) = lN (c7 7 (tkc B g (tkx B g m p))) := by rw [(hFst39 8 _ (dm_8 (by omega) _)).2]; exact hN9
        rcases hw with ⟨rfl, hf41, hf42, hf43, hf44, hT, hf45⟩ | ⟨n46, n47, rfl, hf48, hf49, hf50, hf51⟩
        · have hp9 := hT.2.2.2.2.2.2
          have hk1 := tkd_lt (B := B) (g := g) (m := m) (p := (tkx B g m (tkx B g m (tkx B g m (tkx B g m p)))))
          have hk2 := tkx_le (B := B) (g := g) (m := m) (p := (tkx B g m (tkx B g m (tkx B g m (tkx B g m p))))) hp9
          have hk3 := tka_le (B := B) (g := g) (m := m) (p := (tkx B g m (tkx B g m (tkx B g m (tkx B g m p))))) hp9 hB.2.2.1
          have hk4 := tkv_lt (p := (tkx B g m (tkx B g m (tkx B g m (tkx B g m p))))) hB hp9
          have hk5 := tkw_lt (B := B) (g := g) (m := m) (p := (tkx B g m (tkx B g m (tkx B g m (tkx B g m p)))))
          refine va_calli (va_runV (As := [.int (nI (18 + (c 1))), .int 1]) (rest := []) ⟨hx, hb, hml, hown, hts⟩ (f_put18 l dC dI ar cy _ hN st39 sl40 (18 + (c 1)) B g m (tkx B g m (tkx B g m (tkx B g m (tkx B g m p)))) c nm (tkv B g (tkx B g m (tkx B g m (tkx B g m p)))) (by omega) (by omega) hG.1 (MBt.fr hB hF) hT hR (by rw [hf44]) (by omega)) (cwV 2 hts gX12_readPerson_X12_put rfl rfl rfl (by decide +kernel) ⟨Nat.le_of_ble_eq_true rfl, Nat.le_of_ble_eq_true rfl⟩) ⟨fun a U g mk q => ⟨q.1, mPre.blind q.2⟩, va_recv hK hP (ci := 11) (q0 := 0) rfl rfl, fun U hU hW => ⟨rfl, mPre.of hP hK hU hW⟩⟩ rfl rfl hl.1 rfl (lv_room (Nat.le_of_ble_eq_true rfl)) dX12_readPerson_65 ⟨Nat.le_of_ble_eq_true rfl, Nat.le_of_ble_eq_true rfl⟩) hS (fun q _ h => MA.le hS.1 q h) (MA.le hS.1) (fun r52 x t H locs ht hvm hw hB9 _ _ hS => ?_)
          have hP := mB.at ht hB9
          clear hB9 ht hvm
          obtain ⟨st53, sl54⟩ := x
          obtain ⟨hG2, hF2, hw⟩ := hw
          dsimp only at hG2 hF2 hw
          have hP : va_P (dC, dI) vwCl (mw ar cy st53 sl54) _ := hP
          have hG : MG [1, 2, 3, 6, 7, 8, 9, 10, 11, 12, 13, 14, 15, 20, 21, 22] st st53 := hG.tr hG2 (by decide)
          have hFst53 : FM 4 st39 sl40 st53 sl54 := hF2
          have hF : FM 4 st sl st53 sl54 := hF.tr hFst53 (by omega) (by omega)
          clear hG2 hF2
          obtain ⟨rfl, hf55, hf56, hR, hT⟩ := hw
          have hN9 : sl54 8 (5 + (c 1)) = lN (c7 7 (tkc B g (tkx B g m p))) := by rw [hf55]; exact hN9
          have hp9 := hT.2.2.2.2.2.2
          have hk1 := tkd_lt (B := B) (g := g) (m := m) (p := (tkx B g m (tkx B g m (tkx B g m (tkx B g m p)))))
          have hk2 := tkx_le (B := B) (g := g) (m := m) (p := (tkx B g m (tkx B g m (tkx B g m (tkx B g m p))))) hp9
          have hk3 := tka_le (B := B) (g := g) (m := m) (p := (tkx B g m (tkx B g m (tkx B g m (tkx B g m p))))) hp9 hB.2.2.1
          have hk4 := tkv_lt (p := (tkx B g m (tkx B g m (tkx B g m (tkx B g m p))))) hB hp9
          have hk5 := tkw_lt (B := B) (g := g) (m := m) (p := (tkx B g m (tkx B g m (tkx B g m (tkx B g m p)))))
          refine lv_if_eq (tgt := 115) hx hb dX12_readPerson_68 (by decide) (fun cc => absurd cc (by decide)) (fun _ => ?_)
          refine lv_aload_n hx hb dX12_readPerson_71 rfl (lv_at hl 1 rfl) ?_
          refine lv_bipush (v := 26) hx hb dX12_readPerson_72 (by decide) ?_
          refine lv_iload_n hx hb dX12_readPerson_74 rfl (lv_at hl 0 rfl) ?_
          refine lv_iadd hx hb dX12_readPerson_75 ?_
          refine zz_top (v := nI (26 + (c 1))) (nI_add 26 (c 1)) ?_
          refine lv_aload_n hx hb dX12_readPerson_76 rfl (lv_at hl 1 rfl) ?_
          refine lv_aload_n hx hb dX12_readPerson_77 rfl (lv_at hl 1 rfl) ?_
          refine va_get (D := (dC, dI)) (ci := 11) (v := .ref (ar 3)) (C := RX12) (T := TX12) (N := 47) hx hb hts ii_X12_readPerson hown hK hP 0 rfl rfl 15 (by decide) (hts _ mm_X12_readPerson_1) (fun _ hh => hh) rfl dX12_readPerson_78 ?_
          refine lv_bipush (v := 18) hx hb dX12_readPerson_81 (by decide) ?_
          refine lv_iload_n hx hb dX12_readPerson_83 rfl (lv_at hl 0 rfl) ?_
          refine lv_iadd hx hb dX12_readPerson_84 ?_
          refine zz_top (v := nI (18 + (c 1))) (nI_add 18 (c 1)) ?_
          refine va_iald hx hb hK hP 3 2 rfl rfl (i := (nI (18 + (c 1)))) (vp_in_nI (by omega) (by decide)) dX12_readPerson_85 ?_
          refine zz_top (v := (nI (tkv B g (tkx B g m (tkx B g m (tkx B g m p)))))) (by rw [nI_clamp (by omega)]; show st53 3 (18 + (c 1)) = _; rw [hf56]) ?_
          refine lv_bipush (v := 23) hx hb dX12_readPerson_86 (by decide) ?_
          refine va_calli (va_runV (As := [.int (nI (tkv B g (tkx B g m (tkx B g m (tkx B g m p))))), .int 23]) (rest := [.int (nI (26 + (c 1))), .ref (ar 0)]) ⟨hx, hb, hml, hown, hts⟩ (f_readNumber l dC dI ar cy _ hN st53 sl54 (tkv B g (tkx B g m (tkx B g m (tkx B g m p)))) 23 B g m (tkx B g m (tkx B g m (tkx B g m (tkx B g m p)))) (by omega) (by omega) hG.1 (MBt.fr hB hF) hT) (cwV 2 hts gX12_readPerson_X12_readNumber rfl rfl rfl (by decide +kernel) ⟨Nat.le_of_ble_eq_true rfl, Nat.le_of_ble_eq_true rfl⟩) ⟨fun a U g mk q => ⟨q.1, mPre.blind q.2⟩, va_recv hK hP (ci := 11) (q0 := 0) rfl rfl, fun U hU hW => ⟨rfl, mPre.of hP hK hU hW⟩⟩ rfl rfl hl.1 rfl (lv_room (Nat.le_of_ble_eq_true rfl)) dX12_readPerson_88 ⟨Nat.le_of_ble_eq_true rfl, Nat.le_of_ble_eq_true rfl⟩) hS (fun q _ h => MA.le hS.1 q h) (MA.le hS.1) (fun r57 x t H locs ht hvm hw hB9 _ _ hS => ?_)
          have hP := mB.at ht hB9
          clear hB9 ht hvm
          obtain ⟨st58, sl59⟩ := x
          obtain ⟨hG2, hF2, hw⟩ := hw
          dsimp only at hG2 hF2 hw
          have hP : va_P (dC, dI) vwCl (mw ar cy st58 sl59) _ := hP
          have hG : MG [1, 2, 3, 6, 7, 8, 9, 10, 11, 12, 13, 14, 15, 20, 21, 22] st st58 := hG.tr hG2 (by decide)
          have hFst58 : FM 2 st53 sl54 st58 sl59 := hF2
          have hF : FM 4 st sl st58 sl59 := hF.tr hFst58 (by omega) (by omega)
          clear hG2 hF2
          have hR : RT c nm st58 sl59 := hR.fr hFst58 (by omega)
          have hN9 : sl59 8 (5 + (c 1)) = lN (c7 7 (tkc B g (tkx B g m p))) := by rw [(hFst58 8 _ (dm_8 (by omega) _)).2]; exact hN9
          rcases hw with ⟨rfl, hf60, hf61, hf62, hf63, hT, hf64⟩ | ⟨n65, n66, rfl, hf67, hf68, hf69, hf70⟩
          · have hp9 := hT.2.2.2.2.2.2
            have hk1 := tkd_lt (B := B) (g := g) (m := m) (p := (tkx B g m (tkx B g m (tkx B g m (tkx B g m (tkx B g m p))))))
            have hk2 := tkx_le (B := B) (g := g) (m := m) (p := (tkx B g m (tkx B g m (tkx B g m (tkx B g m (tkx B g m p)))))) hp9
            have hk3 := tka_le (B := B) (g := g) (m := m) (p := (tkx B g m (tkx B g m (tkx B g m (tkx B g m (tkx B g m p)))))) hp9 hB.2.2.1
            have hk4 := tkv_lt (p := (tkx B g m (tkx B g m (tkx B g m (tkx B g m (tkx B g m p)))))) hB hp9
            have hk5 := tkw_lt (B := B) (g := g) (m := m) (p := (tkx B g m (tkx B g m (tkx B g m (tkx B g m (tkx B g m p))))))
            refine va_calli (va_runV (As := [.int (nI (26 + (c 1))), .int 1]) (rest := []) ⟨hx, hb, hml, hown, hts⟩ (f_put18 l dC dI ar cy _ hN st58 sl59 (26 + (c 1)) B g m (tkx B g m (tkx B g m (tkx B g m (tkx B g m (tkx B g m p))))) c nm (tkv B g (tkx B g m (tkx B g m (tkx B g m (tkx B g m p))))) (by omega) (by omega) hG.1 (MBt.fr hB hF) hT hR (by rw [hf63]) (by omega)) (cwV 2 hts gX12_readPerson_X12_put rfl rfl rfl (by decide +kernel) ⟨Nat.le_of_ble_eq_true rfl, Nat.le_of_ble_eq_true rfl⟩) ⟨fun a U g mk q => ⟨q.1, mPre.blind q.2⟩, va_recv hK hP (ci := 11) (q0 := 0) rfl rfl, fun U hU hW => ⟨rfl, mPre.of hP hK hU hW⟩⟩ rfl rfl hl.1 rfl (lv_room (Nat.le_of_ble_eq_true rfl)) dX12_readPerson_91 ⟨Nat.le_of_ble_eq_true rfl, Nat.le_of_ble_eq_true rfl⟩) hS (fun q _ h => MA.le hS.1 q h) (MA.le hS.1) (fun r71 x t H locs ht hvm hw hB9 _ _ hS => ?_)
            have hP := mB.at ht hB9
            clear hB9 ht hvm
            obtain ⟨st72, sl73⟩ := x
            obtain ⟨hG2, hF2, hw⟩ := hw
            dsimp only at hG2 hF2 hw
            have hP : va_P (dC, dI) vwCl (mw ar cy st72 sl73) _ := hP
            have hG : MG [1, 2, 3, 6, 7, 8, 9, 10, 11, 12, 13, 14, 15, 20, 21, 22] st st72 := hG.tr hG2 (by decide)
            have hFst72 : FM 4 st58 sl59 st72 sl73 := hF2
            have hF : FM 4 st sl st72 sl73 := hF.tr hFst72 (by omega) (by omega)
            clear hG2 hF2
            obtain ⟨rfl, hf74, hf75, hR, hT⟩ := hw
            have hN9 : sl73 8 (5 + (c 1)) = lN (c7 7 (tkc B g (tkx B g m p))) := by rw [hf74]; exact hN9
            have hp9 := hT.2.2.2.2.2.2
            have hk1 := tkd_lt (B := B) (g := g) (m := m) (p := (tkx B g m (tkx B g m (tkx B g m (tkx B g m (tkx B g m p))))))
            have hk2 := tkx_le (B := B) (g := g) (m := m) (p := (tkx B g m (tkx B g m (tkx B g m (tkx B g m (tkx B g m p)))))) hp9
            have hk3 := tka_le (B := B) (g := g) (m := m) (p := (tkx B g m (tkx B g m (tkx B g m (tkx B g m (tkx B g m p)))))) hp9 hB.2.2.1
            have hk4 := tkv_lt (p := (tkx B g m (tkx B g m (tkx B g m (tkx B g m (tkx B g m p)))))) hB hp9
            have hk5 := tkw_lt (B := B) (g := g) (m := m) (p := (tkx B g m (tkx B g m (tkx B g m (tkx B g m (tkx B g m p))))))
            refine lv_if_eq (tgt := 115) hx hb dX12_readPerson_94 (by decide) (fun cc => absurd cc (by decide)) (fun _ => ?_)
            refine lv_aload_n hx hb dX12_readPerson_97 rfl (lv_at hl 1 rfl) ?_
            refine lv_bipush (v := 34) hx hb dX12_readPerson_98 (by decide) ?_
            refine lv_iload_n hx hb dX12_readPerson_100 rfl (lv_at hl 0 rfl) ?_
            refine lv_iadd hx hb dX12_readPerson_101 ?_
            refine zz_top (v := nI (34 + (c 1))) (nI_add 34 (c 1)) ?_
            refine lv_aload_n hx hb dX12_readPerson_102 rfl (lv_at hl 1 rfl) ?_
            refine lv_iconst (v := 0) hx hb dX12_readPerson_103 (by decide) ?_
            refine lv_bipush (v := 30) hx hb dX12_readPerson_104 (by decide) ?_
            refine va_calli (va_runV (As := [.int 0, .int 30]) (rest := [.int (nI (34 + (c 1))), .ref (ar 0)]) ⟨hx, hb, hml, hown, hts⟩ (f_readNumber l dC dI ar cy _ hN st72 sl73 0 30 B g m (tkx B g m (tkx B g m (tkx B g m (tkx B g m (tkx B g m p))))) (by omega) (by omega) hG.1 (MBt.fr hB hF) hT) (cwV 2 hts gX12_readPerson_X12_readNumber rfl rfl rfl (by decide +kernel) ⟨Nat.le_of_ble_eq_true rfl, Nat.le_of_ble_eq_true rfl⟩) ⟨fun a U g mk q => ⟨q.1, mPre.blind q.2⟩, va_recv hK hP (ci := 11) (q0 := 0) rfl rfl, fun U hU hW => ⟨rfl, mPre.of hP hK hU hW⟩⟩ rfl rfl hl.1 rfl (lv_room (Nat.le_of_ble_eq_true rfl)) dX12_readPerson_106 ⟨Nat.le_of_ble_eq_true rfl, Nat.le_of_ble_eq_true rfl⟩) hS (fun q _ h => MA.le hS.1 q h) (MA.le hS.1) (fun r76 x t H locs ht hvm hw hB9 _ _ hS => ?_)
            have hP := mB.at ht hB9
            clear hB9 ht hvm
            obtain ⟨st77, sl78⟩ := x
            obtain ⟨hG2, hF2, hw⟩ := hw
            dsimp only at hG2 hF2 hw
            have hP : va_P (dC, dI) vwCl (mw ar cy st77 sl78) _ := hP
            have hG : MG [1, 2, 3, 6, 7, 8, 9, 10, 11, 12, 13, 14, 15, 20, 21, 22] st st77 := hG.tr hG2 (by decide)
            have hFst77 : FM 2 st72 sl73 st77 sl78 := hF2
            have hF : FM 4 st sl st77 sl78 := hF.tr hFst77 (by omega) (by omega)
            clear hG2 hF2
            have hR : RT c nm st77 sl78 := hR.fr hFst77 (by omega)
            have hN9 : sl78 8 (5 + (c 1)) = lN (c7 7 (tkc B g (tkx B g m p))) := by rw [(hFst77 8 _ (dm_8 (by omega) _)).2]; exact hN9
            rcases hw with ⟨rfl, hf79, hf80, hf81, hf82, hT, hf83⟩ | ⟨n84, n85, rfl, hf86, hf87, hf88, hf89⟩
            · have hp9 := hT.2.2.2.2.2.2
              have hk1 := tkd_lt (B := B) (g := g) (m := m) (p := (tkx B g m (tkx B g m (tkx B g m (tkx B g m (tkx B g m (tkx B g m p)))))))
              have hk2 := tkx_le (B := B) (g := g) (m := m) (p := (tkx B g m (tkx B g m (tkx B g m (tkx B g m (tkx B g m (tkx B g m p))))))) hp9
              have hk3 := tka_le (B := B) (g := g) (m := m) (p := (tkx B g m (tkx B g m (tkx B g m (tkx B g m (tkx B g m (tkx B g m p))))))) hp9 hB.2.2.1
              have hk4 := tkv_lt (p := (tkx B g m (tkx B g m (tkx B g m (tkx B g m (tkx B g m (tkx B g m p))))))) hB hp9
              have hk5 := tkw_lt (B := B) (g := g) (m := m) (p := (tkx B g m (tkx B g m (tkx B g m (tkx B g m (tkx B g m (tkx B g m p)))))))
              refine va_calli (va_runV (As := [.int (nI (34 + (c 1))), .int 1]) (rest := []) ⟨hx, hb, hml, hown, hts⟩ (f_put18 l dC dI ar cy _ hN st77 sl78 (34 + (c 1)) B g m (tkx B g m (tkx B g m (tkx B g m (tkx B g m (tkx B g m (tkx B g m p)))))) c nm (tkv B g (tkx B g m (tkx B g m (tkx B g m (tkx B g m (tkx B g m p)))))) (by omega) (by omega) hG.1 (MBt.fr hB hF) hT hR (by rw [hf82]) (by omega)) (cwV 2 hts gX12_readPerson_X12_put rfl rfl rfl (by decide +kernel) ⟨Nat.le_of_ble_eq_true rfl, Nat.le_of_ble_eq_true rfl⟩) ⟨fun a U g mk q => ⟨q.1, mPre.blind q.2⟩, va_recv hK hP (ci := 11) (q0 := 0) rfl rfl, fun U hU hW => ⟨rfl, mPre.of hP hK hU hW⟩⟩ rfl rfl hl.1 rfl (lv_room (Nat.le_of_ble_eq_true rfl)) dX12_readPerson_109 ⟨Nat.le_of_ble_eq_true rfl, Nat.le_of_ble_eq_true rfl⟩) hS (fun q _ h => MA.le hS.1 q h) (MA.le hS.1) (fun r90 x t H locs ht hvm hw hB9 _ _ hS => ?_)
              have hP := mB.at ht hB9
              clear hB9 ht hvm
              obtain ⟨st91, sl92⟩ := x
              obtain ⟨hG2, hF2, hw⟩ := hw
              dsimp only at hG2 hF2 hw
              have hP : va_P (dC, dI) vwCl (mw ar cy st91 sl92) _ := hP
              have hG : MG [1, 2, 3, 6, 7, 8, 9, 10, 11, 12, 13, 14, 15, 20, 21, 22] st st91 := hG.tr hG2 (by decide)
              have hFst91 : FM 4 st77 sl78 st91 sl92 := hF2
              have hF : FM 4 st sl st91 sl92 := hF.tr hFst91 (by omega) (by omega)
              clear hG2 hF2
              obtain ⟨rfl, hf93, hf94, hR, hT⟩ := hw
              have hN9 : sl92 8 (5 + (c 1)) = lN (c7 7 (tkc B g (tkx B g m p))) := by rw [hf93]; exact hN9
              have hp9 := hT.2.2.2.2.2.2
              have hk1 := tkd_lt (B := B) (g := g) (m := m) (p := (tkx B g m (tkx B g m (tkx B g m (tkx B g m (tkx B g m (tkx B g m p)))))))
              have hk2 := tkx_le (B := B) (g := g) (m := m) (p := (tkx B g m (tkx B g m (tkx B g m (tkx B g m (tkx B g m (tkx B g m p))))))) hp9
              have hk3 := tka_le (B := B) (g := g) (m := m) (p := (tkx B g m (tkx B g m (tkx B g m (tkx B g m (tkx B g m (tkx B g m p))))))) hp9 hB.2.2.1
              have hk4 := tkv_lt (p := (tkx B g m (tkx B g m (tkx B g m (tkx B g m (tkx B g m (tkx B g m p))))))) hB hp9
              have hk5 := tkw_lt (B := B) (g := g) (m := m) (p := (tkx B g m (tkx B g m (tkx B g m (tkx B g m (tkx B g m (tkx B g m p)))))))
              refine lv_if_ne (tgt := 117) hx hb dX12_readPerson_112 (by decide) (fun _ => ?_) (fun cc => absurd cc (by decide))
              refine lv_aload_n hx hb dX12_readPerson_117 rfl (lv_at hl 1 rfl) ?_
              refine va_get (D := (dC, dI)) (ci := 11) (v := .ref (ar 3)) (C := RX12) (T := TX12) (N := 47) hx hb hts ii_X12_readPerson hown hK hP 0 rfl rfl 15 (by decide) (hts _ mm_X12_readPerson_1) (fun _ hh => hh) rfl dX12_readPerson_118 ?_
              refine lv_iconst (v := 1) hx hb dX12_readPerson_121 (by decide) ?_
              refine lv_dup2_11 hx hb dX12_readPerson_122 rfl rfl ?_
              refine va_iald hx hb hK hP 3 2 rfl rfl (i := 1) (zz_in (by decide)) dX12_readPerson_123 ?_
              refine zz_top (v := (nI (c 1))) (by show st91 3 1 = _; rw [hR.2.1]) ?_
              refine lv_iconst (v := 1) hx hb dX12_readPerson_124 (by decide) ?_
              refine lv_iadd hx hb dX12_readPerson_125 ?_
              refine zz_top (v := nI ((c 1) + 1)) (nI_add (c 1) 1) ?_
              refine va_iast hx hb hK hP (mD hN _ _ _ _) hS 3 2 rfl rfl (i := 1) (zz_in (by decide)) dX12_readPerson_126 (fun H locs hP _ hS => ?_)
              have hP : va_P (dC, dI) vwCl (mw ar cy (up2 st91 3 1 (nI ((c 1) + 1))) sl92) H := hP
              obtain ⟨st95, est95⟩ : ∃ y, y = up2 st91 3 1 (nI ((c 1) + 1)) := ⟨_, rfl⟩
              have hG : MG [1, 2, 3, 6, 7, 8, 9, 10, 11, 12, 13, 14, 15, 20, 21, 22] st st95 := by rw [est95]; exact hG.up (rn (n := ((c 1) + 1)) (by decide : mr 3 1 = 9) (by omega)) (pn (by decide : pcl 3 1 = 19) (by decide))
              rw [← est95] at hP
              have hF : FM 4 st sl st95 sl92 := by rw [est95]; exact hF.up (by decide)
              have hT : TM B g m (tkx B g m (tkx B g m (tkx B g m (tkx B g m (tkx B g m (tkx B g m p)))))) st95 sl92 := by rw [est95]; exact hT.up (by omega)
              have hR : RT (uN c 1 (c 1 + 1)) (uM nm 1 (c 1) (tkc B g (tkx B g m p))) st95 sl92 := by rw [est95]; exact hR.inc (a := 1) (by decide) ⟨by omega, by omega, by omega⟩ hf12 hN9
              refine lv_iconst (v := 1) hx hb dX12_readPerson_127 (by decide) ?_
              exact W.zret (v := 1) hx hb hr rfl (fun t ht hW => ⟨⟨1, (st95, sl92), rfl, ⟨hG, hF, Or.inl (⟨(uN c 1 (c 1 + 1)), (uM nm 1 (c 1) (tkc B g (tkx B g m p))), (tkx B g m (tkx B g m (tkx B g m (tkx B g m (tkx B g m (tkx B g m p)))))), rfl, hR, hT, uN_sum (a := 1) (by decide) rfl, by unfold lPerson; rw [if_neg hf4, hf13, hf26, hf45, hf64, hf83]⟩)⟩, mB.of ht hP⟩, hS.F ht⟩) hS.2.2 dX12_readPerson_128
            · refine va_calli (va_runV (As := [.int (nI (34 + (c 1))), .int 0]) (rest := []) ⟨hx, hb, hml, hown, hts⟩ (f_putF l dC dI ar cy _ hN st77 sl78 (34 + (c 1)) (by omega) hG.1 ) (cwV 2 hts gX12_readPerson_X12_put rfl rfl rfl (by decide +kernel) ⟨Nat.le_of_ble_eq_true rfl, Nat.le_of_ble_eq_true rfl⟩) ⟨fun a U g mk q => ⟨q.1, mPre.blind q.2⟩, va_recv hK hP (ci := 11) (q0 := 0) rfl rfl, fun U hU hW => ⟨rfl, mPre.of hP hK hU hW⟩⟩ rfl rfl hl.1 rfl (lv_room (Nat.le_of_ble_eq_true rfl)) dX12_readPerson_109 ⟨Nat.le_of_ble_eq_true rfl, Nat.le_of_ble_eq_true rfl⟩) hS (fun q _ h => MA.le hS.1 q h) (MA.le hS.1) (fun r96 x t H locs ht hvm hw hB9 _ _ hS => ?_)
              have hP := mB.at ht hB9
              clear hB9 ht hvm
              obtain ⟨rfl, hw⟩ := hw
              have hP : va_P (dC, dI) vwCl (mw ar cy st77 sl78) _ := hP
              obtain rfl := hw
              refine lv_if_ne (tgt := 117) hx hb dX12_readPerson_112 (by decide) (fun cc => absurd (by decide) cc) (fun _ => ?_)
              refine lv_iconst (v := 0) hx hb dX12_readPerson_115 (by decide) ?_
              exact W.zret (v := 0) hx hb hr rfl (fun t ht hW => ⟨⟨0, (st77, sl78), rfl, ⟨hG, hF, Or.inr (⟨n84, n85, rfl, by show st77 0 10 = _; rw [hf86], by show st77 0 11 = _; rw [hf87], by omega, by unfold lPerson; rw [if_neg hf4, hf13, hf26, hf45, hf64, hf89]⟩)⟩, mB.of ht hP⟩, hS.F ht⟩) hS.2.2 dX12_readPerson_116
          · refine va_calli (va_runV (As := [.int (nI (26 + (c 1))), .int 0]) (rest := []) ⟨hx, hb, hml, hown, hts⟩ (f_putF l dC dI ar cy _ hN st58 sl59 (26 + (c 1)) (by omega) hG.1 ) (cwV 2 hts gX12_readPerson_X12_put rfl rfl rfl (by decide +kernel) ⟨Nat.le_of_ble_eq_true rfl, Nat.le_of_ble_eq_true rfl⟩) ⟨fun a U g mk q => ⟨q.1, mPre.blind q.2⟩, va_recv hK hP (ci := 11) (q0 := 0) rfl rfl, fun U hU hW => ⟨rfl, mPre.of hP hK hU hW⟩⟩ rfl rfl hl.1 rfl (lv_room (Nat.le_of_ble_eq_true rfl)) dX12_readPerson_91 ⟨Nat.le_of_ble_eq_true rfl, Nat.le_of_ble_eq_true rfl⟩) hS (fun q _ h => MA.le hS.1 q h) (MA.le hS.1) (fun r97 x t H locs ht hvm hw hB9 _ _ hS => ?_)
            have hP := mB.at ht hB9
            clear hB9 ht hvm
            obtain ⟨rfl, hw⟩ := hw
            have hP : va_P (dC, dI) vwCl (mw ar cy st58 sl59) _ := hP
            obtain rfl := hw
            refine lv_if_eq (tgt := 115) hx hb dX12_readPerson_94 (by decide) (fun _ => ?_) (fun cc => absurd (by decide) cc)
            refine lv_iconst (v := 0) hx hb dX12_readPerson_115 (by decide) ?_
            exact W.zret (v := 0) hx hb hr rfl (fun t ht hW => ⟨⟨0, (st58, sl59), rfl, ⟨hG, hF, Or.inr (⟨n65, n66, rfl, by show st58 0 10 = _; rw [hf67], by show st58 0 11 = _; rw [hf68], by omega, by unfold lPerson; rw [if_neg hf4, hf13, hf26, hf45, hf70]⟩)⟩, mB.of ht hP⟩, hS.F ht⟩) hS.2.2 dX12_readPerson_116
        · refine va_calli (va_runV (As := [.int (nI (18 + (c 1))), .int 0]) (rest := []) ⟨hx, hb, hml, hown, hts⟩ (f_putF l dC dI ar cy _ hN st39 sl40 (18 + (c 1)) (by omega) hG.1 ) (cwV 2 hts gX12_readPerson_X12_put rfl rfl rfl (by decide +kernel) ⟨Nat.le_of_ble_eq_true rfl, Nat.le_of_ble_eq_true rfl⟩) ⟨fun a U g mk q => ⟨q.1, mPre.blind q.2⟩, va_recv hK hP (ci := 11) (q0 := 0) rfl rfl, fun U hU hW => ⟨rfl, mPre.of hP hK hU hW⟩⟩ rfl rfl hl.1 rfl (lv_room (Nat.le_of_ble_eq_true rfl)) dX12_readPerson_65 ⟨Nat.le_of_ble_eq_true rfl, Nat.le_of_ble_eq_true rfl⟩) hS (fun q _ h => MA.le hS.1 q h) (MA.le hS.1) (fun r98 x t H locs ht hvm hw hB9 _ _ hS => ?_)
          have hP := mB.at ht hB9
          clear hB9 ht hvm
          obtain ⟨rfl, hw⟩ := hw
          have hP : va_P (dC, dI) vwCl (mw ar cy st39 sl40) _ := hP
          obtain rfl := hw
          refine lv_if_eq (tgt := 115) hx hb dX12_readPerson_68 (by decide) (fun _ => ?_) (fun cc => absurd (by decide) cc)
          refine lv_iconst (v := 0) hx hb dX12_readPerson_115 (by decide) ?_
          exact W.zret (v := 0) hx hb hr rfl (fun t ht hW => ⟨⟨0, (st39, sl40), rfl, ⟨hG, hF, Or.inr (⟨n46, n47, rfl, by show st39 0 10 = _; rw [hf48], by show st39 0 11 = _; rw [hf49], by omega, by unfold lPerson; rw [if_neg hf4, hf13, hf26, hf51]⟩)⟩, mB.of ht hP⟩, hS.F ht⟩) hS.2.2 dX12_readPerson_116
      · refine va_calli (va_runV (As := [.int (nI (10 + (c 1))), .int 0]) (rest := []) ⟨hx, hb, hml, hown, hts⟩ (f_putF l dC dI ar cy _ hN st21 sl22 (10 + (c 1)) (by omega) hG.1 ) (cwV 2 hts gX12_readPerson_X12_put rfl rfl rfl (by decide +kernel) ⟨Nat.le_of_ble_eq_true rfl, Nat.le_of_ble_eq_true rfl⟩) ⟨fun a U g mk q => ⟨q.1, mPre.blind q.2⟩, va_recv hK hP (ci := 11) (q0 := 0) rfl rfl, fun U hU hW => ⟨rfl, mPre.of hP hK hU hW⟩⟩ rfl rfl hl.1 rfl (lv_room (Nat.le_of_ble_eq_true rfl)) dX12_readPerson_45 ⟨Nat.le_of_ble_eq_true rfl, Nat.le_of_ble_eq_true rfl⟩) hS (fun q _ h => MA.le hS.1 q h) (MA.le hS.1) (fun r99 x t H locs ht hvm hw hB9 _ _ hS => ?_)
        have hP := mB.at ht hB9
        clear hB9 ht hvm
        obtain ⟨rfl, hw⟩ := hw
        have hP : va_P (dC, dI) vwCl (mw ar cy st21 sl22) _ := hP
        obtain rfl := hw
        refine lv_if_ne (tgt := 53) hx hb dX12_readPerson_48 (by decide) (fun cc => absurd (by decide) cc) (fun _ => ?_)
        refine lv_iconst (v := 0) hx hb dX12_readPerson_51 (by decide) ?_
        exact W.zret (v := 0) hx hb hr rfl (fun t ht hW => ⟨⟨0, (st21, sl22), rfl, ⟨hG, hF, Or.inr (⟨n27, n28, rfl, by show st21 0 10 = _; rw [hf29], by show st21 0 11 = _; rw [hf30], by omega, by unfold lPerson; rw [if_neg hf4, hf13, hf32]⟩)⟩, mB.of ht hP⟩, hS.F ht⟩) hS.2.2 dX12_readPerson_52
    · refine lv_if_eq (tgt := 51) hx hb dX12_readPerson_26 (by decide) (fun _ => ?_) (fun cc => absurd (by decide) cc)
      refine lv_iconst (v := 0) hx hb dX12_readPerson_51 (by decide) ?_
      exact W.zret (v := 0) hx hb hr rfl (fun t ht hW => ⟨⟨0, (st9, sl10), rfl, ⟨hG, hF, Or.inr (⟨n14, n15, rfl, by show st9 0 10 = _; rw [hf16], by show st9 0 11 = _; rw [hf17], by omega, by unfold lPerson; rw [if_neg hf4, hf19]⟩)⟩, mB.of ht hP⟩, hS.F ht⟩) hS.2.2 dX12_readPerson_52
  · refine lv_if_ne (tgt := 12) hx hb dX12_readPerson_7 (by decide) (fun cc => absurd (by decide) cc) (fun _ => ?_)
    refine lv_iconst (v := 0) hx hb dX12_readPerson_10 (by decide) ?_
    exact W.zret (v := 0) hx hb hr rfl (fun t ht hW => ⟨⟨0, (st2, sl3), rfl, ⟨hG, hF, Or.inr (⟨4, (tka B g m p), rfl, by show st2 0 10 = _; rw [hf6], by show st2 0 11 = _; rw [hf7], by omega, by unfold lPerson; rw [if_pos hf5]⟩)⟩, mB.of ht hP⟩, hS.F ht⟩) hS.2.2 dX12_readPerson_11
set_option maxHeartbeats 4000000 in
set_option maxRecDepth 100000 in
theorem f_readDog (l : Launch) (dC : Nat → ClassId) (dI : Nat → Nat → Nat) (ar : Nat → Nat) (cy : Nat → ClassId) (sz : Nat) (hN : MN ar) (st : Nat → Nat → Int32) (sl : Nat → Nat → Int64) (B : Nat → Nat) (g m : Nat) (p : Nat) (c : Nat → Nat) (nm : Nat → Nat → Nat) (hI : MI st) (hB : MBt B g m st) (hT : TM B g m p st sl) (hR : RT c nm st sl) (hw : tkw B g m p = 3) : Met l yX12_readDog wsX12_readDog ({ frames := 4, cells := 0, slots := 0, locals := 91 }) (va_Pc [.ref (ar 0)] (mPre dC dI ar cy sz st sl)) (va_Qi (fun (r : Int32) (x : MT) => MG [1, 2, 3, 6, 7, 8, 9, 10, 11, 12, 13, 14, 15, 20, 21, 22] st x.1 ∧ FM 4 st sl x.1 x.2 ∧ ((∃ c1 : Nat → Nat, ∃ n1 : Nat → Nat → Nat, ∃ q : Nat, r = 1 ∧ RT c1 n1 x.1 x.2 ∧ TM B g m q x.1 x.2 ∧ c1 0 + c1 1 + c1 2 + c1 3 + c1 4 = c 0 + c 1 + c 2 + c 3 + c 4 + 1 ∧ lDog B g m p c nm = eEnd B g m q (fun p2 => (0, p2, c1, n1))) ∨ (∃ f : Nat, ∃ a : Nat, r = 0 ∧ x.1 0 10 = nI f ∧ x.1 0 11 = nI a ∧ 1 ≤ f ∧ lDog B g m p c nm = fl f a))) (mB dC dI ar cy) (MA ar sz)) 0 0 (MA ar sz) := by
  refine Met.ofW (cc := cX12_readDog) (maxL := 2) (ret := (some .boolean)) (by decide) rfl ?_
  intro p9 e s m9 args below meth c9 s₁ B9 hml hv
  obtain ⟨rfl, hsz, hP, hK⟩ := hv
  have hx := B9.exec
  have hb := B9.bytes
  have hr := B9.returns
  have hts := atoms_spec (ws := wsX12_readDog) B9.pre
  have hown : s.vm.findClass RX12 = some m9.cls := findClass_of_methodNamed B9.named
  subst hsz
  have hS : va_S (MA ar s.heap.size) s.heap s.heap [] := va_S.rf
  have hG : MG [1, 2, 3, 6, 7, 8, 9, 10, 11, 12, 13, 14, 15, 20, 21, 22] st st := MG.rf hI
  have hl := lv_entry ([.ref (ar 0)]) (n := 2) (Nat.le_of_ble_eq_true rfl)
  rw [lg_entry_eq]
  generalize (lg_sl ([.ref (ar 0)]) ++ List.replicate (2 - (lg_sl ([.ref (ar 0)])).length) Slot.unset).toArray = ls at hl ⊢
  have hl : lv_has ls 2 [(0, .ref (ar 0))] := hl
  clear hI
  have hB1 := hB.2.2.1
  have hB2 := hB.2.2.2.1
  have hF : FM 4 st sl st sl := FM.rf
  have hp9 := hT.2.2.2.2.2.2
  have hk1 := tkd_lt (B := B) (g := g) (m := m) (p := p)
  have hk2 := tkx_le (B := B) (g := g) (m := m) (p := p) hp9
  have hk3 := tka_le (B := B) (g := g) (m := m) (p := p) hp9 hB.2.2.1
  have hk4 := tkv_lt (p := p) hB hp9
  have hk5 := tkw_lt (B := B) (g := g) (m := m) (p := p)
  have hR9 := hR.2.2.2.2.2.1
  refine lv_aload_n hx hb dX12_readDog_0 rfl (lv_at hl 0 rfl) ?_
  refine lv_iconst (v := 2) hx hb dX12_readDog_1 (by decide) ?_
  refine lv_bipush (v := 6) hx hb dX12_readDog_2 (by decide) ?_
  refine va_calli (va_runV (As := [.int 2, .int 6]) (rest := []) ⟨hx, hb, hml, hown, hts⟩ (f_readFirst2 l dC dI ar cy _ hN st sl B g m p c nm hG.1 (MBt.fr hB hF) hT hR (by have h9 := @tkw_d B g m p; omega)) (cwV 2 hts gX12_readDog_X12_readFirst rfl rfl rfl (by decide +kernel) ⟨Nat.le_of_ble_eq_true rfl, Nat.le_of_ble_eq_true rfl⟩) ⟨fun a U g mk q => ⟨q.1, mPre.blind q.2⟩, va_recv hK hP (ci := 11) (q0 := 0) rfl rfl, fun U hU hW => ⟨rfl, mPre.of hP hK hU hW⟩⟩ rfl rfl hl.1 rfl (lv_room (Nat.le_of_ble_eq_true rfl)) dX12_readDog_4 ⟨Nat.le_of_ble_eq_true rfl, Nat.le_of_ble_eq_true rfl⟩) hS (fun q _ h => MA.le hS.1 q h) (MA.le hS.1) (fun r1 x t H locs ht hvm hw hB9 _ _ hS => ?_)
  have hP := mB.at ht hB9
  clear hB9 ht hvm
  obtain ⟨st2, sl3⟩ := x
  obtain ⟨hG2, hF2, hw⟩ := hw
  dsimp only at hG2 hF2 hw
  have hP : va_P (dC, dI) vwCl (mw ar cy st2 sl3) _ := hP
  have hG : MG [1, 2, 3, 6, 7, 8, 9, 10, 11, 12, 13, 14, 15, 20, 21, 22] st st2 := hG.tr hG2 (by decide)
  have hFst2 : FM 2 st sl st2 sl3 := hF2
  have hF : FM 4 st sl st2 sl3 := hF.tr hFst2 (by omega) (by omega)
  clear hG2 hF2
  have hR : RT c nm st2 sl3 := hR.fr hFst2 (by omega)
  rcases hw with ⟨rfl, hf4, hT⟩ | ⟨rfl, hf5, hf6, hf7⟩
  · have hp9 := hT.2.2.2.2.2.2
    have hk1 := tkd_lt (B := B) (g := g) (m := m) (p := (tkx B g m p))
    have hk2 := tkx_le (B := B) (g := g) (m := m) (p := (tkx B g m p)) hp9
    have hk3 := tka_le (B := B) (g := g) (m := m) (p := (tkx B g m p)) hp9 hB.2.2.1
    have hk4 := tkv_lt (p := (tkx B g m p)) hB hp9
    have hk5 := tkw_lt (B := B) (g := g) (m := m) (p := (tkx B g m p))
    refine lv_if_ne (tgt := 12) hx hb dX12_readDog_7 (by decide) (fun _ => ?_) (fun cc => absurd cc (by decide))
    refine lv_aload_n hx hb dX12_readDog_12 rfl (lv_at hl 0 rfl) ?_
    refine va_get (D := (dC, dI)) (ci := 11) (v := .ref (ar 3)) (C := RX12) (T := TX12) (N := 47) hx hb hts ii_X12_readDog hown hK hP 0 rfl rfl 15 (by decide) (hts _ mm_X12_readDog_1) (fun _ hh => hh) rfl dX12_readDog_13 ?_
    refine lv_iconst (v := 2) hx hb dX12_readDog_16 (by decide) ?_
    refine va_iald hx hb hK hP 3 2 rfl rfl (i := 2) (zz_in (by decide)) dX12_readDog_17 ?_
    refine zz_top (v := (nI (c 2))) (by show st2 3 2 = _; rw [hR.2.2.1]) ?_
    refine lv_istore_n (lv' := [(1, .int (nI (c 2))), (0, .ref (ar 0))]) hx hb dX12_readDog_18 rfl hl (by decide) rfl (fun ls hl => ?_)
    refine lv_aload_n hx hb dX12_readDog_19 rfl (lv_at hl 1 rfl) ?_
    refine lv_bipush (v := 13) hx hb dX12_readDog_20 (by decide) ?_
    refine lv_iload_n hx hb dX12_readDog_22 rfl (lv_at hl 0 rfl) ?_
    refine lv_iadd hx hb dX12_readDog_23 ?_
    refine zz_top (v := nI (13 + (c 2))) (nI_add 13 (c 2)) ?_
    refine va_calli (va_runV (As := [.int (nI (13 + (c 2)))]) (rest := []) ⟨hx, hb, hml, hown, hts⟩ (f_readNew l dC dI ar cy _ hN st2 sl3 (13 + (c 2)) B g m (tkx B g m p) c nm (by omega) hG.1 (MBt.fr hB hF) hT hR (fun a9 ha i hi e => hR.free (b := 2) (by decide) ⟨by omega, by omega⟩ a9 ha i hi (by rw [e]; rfl))) (cwV 1 hts gX12_readDog_X12_readNew rfl rfl rfl (by decide +kernel) ⟨Nat.le_of_ble_eq_true rfl, Nat.le_of_ble_eq_true rfl⟩) ⟨fun a U g mk q => ⟨q.1, mPre.blind q.2⟩, va_recv hK hP (ci := 11) (q0 := 0) rfl rfl, fun U hU hW => ⟨rfl, mPre.of hP hK hU hW⟩⟩ rfl rfl hl.1 rfl (lv_room (Nat.le_of_ble_eq_true rfl)) dX12_readDog_24 ⟨Nat.le_of_ble_eq_true rfl, Nat.le_of_ble_eq_true rfl⟩) hS (fun q _ h => MA.le hS.1 q h) (MA.le hS.1) (fun r8 x t H locs ht hvm hw hB9 _ _ hS => ?_)
    have hP := mB.at ht hB9
    clear hB9 ht hvm
    obtain ⟨st9, sl10⟩ := x
    obtain ⟨hG2, hF2, hw⟩ := hw
    dsimp only at hG2 hF2 hw
    have hP : va_P (dC, dI) vwCl (mw ar cy st9 sl10) _ := hP
    have hG : MG [1, 2, 3, 6, 7, 8, 9, 10, 11, 12, 13, 14, 15, 20, 21, 22] st st9 := hG.tr hG2 (by decide)
    have hFst9 : FM 3 st2 sl3 st9 sl10 := hF2
    have hF : FM 4 st sl st9 sl10 := hF.tr hFst9 (by omega) (by omega)
    clear hG2 hF2
    rcases hw with ⟨rfl, hf11, hN9, hf12, hR, hT, hf13⟩ | ⟨n14, n15, rfl, hf16, hf17, hf18, hf19⟩
    · have hp9 := hT.2.2.2.2.2.2
      have hk1 := tkd_lt (B := B) (g := g) (m := m) (p := (tkx B g m (tkx B g m p)))
      have hk2 := tkx_le (B := B) (g := g) (m := m) (p := (tkx B g m (tkx B g m p))) hp9
      have hk3 := tka_le (B := B) (g := g) (m := m) (p := (tkx B g m (tkx B g m p))) hp9 hB.2.2.1
      have hk4 := tkv_lt (p := (tkx B g m (tkx B g m p))) hB hp9
      have hk5 := tkw_lt (B := B) (g := g) (m := m) (p := (tkx B g m (tkx B g m p)))
      refine lv_if_eq (tgt := 52) hx hb dX12_readDog_27 (by decide) (fun cc => absurd cc (by decide)) (fun _ => ?_)
      refine lv_aload_n hx hb dX12_readDog_30 rfl (lv_at hl 1 rfl) ?_
      refine lv_bipush (v := 42) hx hb dX12_readDog_31 (by decide) ?_
      refine lv_iload_n hx hb dX12_readDog_33 rfl (lv_at hl 0 rfl) ?_
      refine lv_iadd hx hb dX12_readDog_34 ?_
      refine zz_top (v := nI (42 + (c 2))) (nI_add 42 (c 2)) ?_
      refine lv_aload_n hx hb dX12_readDog_35 rfl (lv_at hl 1 rfl) ?_
      refine lv_iconst (v := 5) hx hb dX12_readDog_36 (by decide) ?_
      refine lv_aload_n hx hb dX12_readDog_37 rfl (lv_at hl 1 rfl) ?_
      refine va_get (D := (dC, dI)) (ci := 11) (v := .ref (ar 3)) (C := RX12) (T := TX12) (N := 47) hx hb hts ii_X12_readDog hown hK hP 0 rfl rfl 15 (by decide) (hts _ mm_X12_readDog_1) (fun _ hh => hh) rfl dX12_readDog_38 ?_
      refine lv_iconst (v := 1) hx hb dX12_readDog_41 (by decide) ?_
      refine va_iald hx hb hK hP 3 2 rfl rfl (i := 1) (zz_in (by decide)) dX12_readDog_42 ?_
      refine zz_top (v := (nI (c 1))) (by show st9 3 1 = _; rw [hR.2.1]) ?_
      refine va_calli (va_runV (As := [.int 5, .int (nI (c 1))]) (rest := [.int (nI (42 + (c 2))), .ref (ar 0)]) ⟨hx, hb, hml, hown, hts⟩ (f_readOne1 l dC dI ar cy _ hN st9 sl10 (c 1) B g m (tkx B g m (tkx B g m p)) c nm (by omega) hG.1 (MBt.fr hB hF) hT hR (by omega)) (cwV 2 hts gX12_readDog_X12_readOne rfl rfl rfl (by decide +kernel) ⟨Nat.le_of_ble_eq_true rfl, Nat.le_of_ble_eq_true rfl⟩) ⟨fun a U g mk q => ⟨q.1, mPre.blind q.2⟩, va_recv hK hP (ci := 11) (q0 := 0) rfl rfl, fun U hU hW => ⟨rfl, mPre.of hP hK hU hW⟩⟩ rfl rfl hl.1 rfl (lv_room (Nat.le_of_ble_eq_true rfl)) dX12_readDog_43 ⟨Nat.le_of_ble_eq_true rfl, Nat.le_of_ble_eq_true rfl⟩) hS (fun q _ h => MA.le hS.1 q h) (MA.le hS.1) (fun r20 x t H locs ht hvm hw hB9 _ _ hS => ?_)
      have hP := mB.at ht hB9
      clear hB9 ht hvm
      obtain ⟨st21, sl22⟩ := x
      obtain ⟨hG2, hF2, hw⟩ := hw
      dsimp only at hG2 hF2 hw
      have hP : va_P (dC, dI) vwCl (mw ar cy st21 sl22) _ := hP
      have hG : MG [1, 2, 3, 6, 7, 8, 9, 10, 11, 12, 13, 14, 15, 20, 21, 22] st st21 := hG.tr hG2 (by decide)
      have hFst21 : FM 2 st9 sl10 st21 sl22 := hF2
      have hF : FM 4 st sl st21 sl22 := hF.tr hFst21 (by omega) (by omega)
      clear hG2 hF2
      have hR : RT c nm st21 sl22 := hR.fr hFst21 (by omega)
      have hN9 : sl22 8 (13 + (c 2)) = lN (c7 7 (tkc B g (tkx B g m p))) := by rw [(hFst21 8 _ (dm_8 (by omega) _)).2]; exact hN9
      rcases hw with ⟨n23, rfl, hf24, hf25, hT, hf26⟩ | ⟨n27, n28, rfl, hf29, hf30, hf31, hf32⟩
      · have hp9 := hT.2.2.2.2.2.2
        have hk1 := tkd_lt (B := B) (g := g) (m := m) (p := (tkx B g m (tkx B g m (tkx B g m p))))
        have hk2 := tkx_le (B := B) (g := g) (m := m) (p := (tkx B g m (tkx B g m (tkx B g m p)))) hp9
        have hk3 := tka_le (B := B) (g := g) (m := m) (p := (tkx B g m (tkx B g m (tkx B g m p)))) hp9 hB.2.2.1
        have hk4 := tkv_lt (p := (tkx B g m (tkx B g m (tkx B g m p)))) hB hp9
        have hk5 := tkw_lt (B := B) (g := g) (m := m) (p := (tkx B g m (tkx B g m (tkx B g m p))))
        refine va_calli (va_runV (As := [.int (nI (42 + (c 2))), .int 1]) (rest := []) ⟨hx, hb, hml, hown, hts⟩ (f_put42 l dC dI ar cy _ hN st21 sl22 (42 + (c 2)) B g m (tkx B g m (tkx B g m (tkx B g m p))) c nm n23 (by omega) (by omega) hG.1 (MBt.fr hB hF) hT hR (by rw [hf25]) (by omega)) (cwV 2 hts gX12_readDog_X12_put rfl rfl rfl (by decide +kernel) ⟨Nat.le_of_ble_eq_true rfl, Nat.le_of_ble_eq_true rfl⟩) ⟨fun a U g mk q => ⟨q.1, mPre.blind q.2⟩, va_recv hK hP (ci := 11) (q0 := 0) rfl rfl, fun U hU hW => ⟨rfl, mPre.of hP hK hU hW⟩⟩ rfl rfl hl.1 rfl (lv_room (Nat.le_of_ble_eq_true rfl)) dX12_readDog_46 ⟨Nat.le_of_ble_eq_true rfl, Nat.le_of_ble_eq_true rfl⟩) hS (fun q _ h => MA.le hS.1 q h) (MA.le hS.1) (fun r33 x t H locs ht hvm hw hB9 _ _ hS => ?_)
        have hP := mB.at ht hB9
        clear hB9 ht hvm
        obtain ⟨st34, sl35⟩ := x
        obtain ⟨hG2, hF2, hw⟩ := hw
        dsimp only at hG2 hF2 hw
        have hP : va_P (dC, dI) vwCl (mw ar cy st34 sl35) _ := hP
        have hG : MG [1, 2, 3, 6, 7, 8, 9, 10, 11, 12, 13, 14, 15, 20, 21, 22] st st34 := hG.tr hG2 (by decide)
        have hFst34 : FM 4 st21 sl22 st34 sl35 := hF2
        have hF : FM 4 st sl st34 sl35 := hF.tr hFst34 (by omega) (by omega)
        clear hG2 hF2
        obtain ⟨rfl, hf36, hf37, hR, hT⟩ := hw
        have hN9 : sl35 8 (13 + (c 2)) = lN (c7 7 (tkc B g (tkx B g m p))) := by rw [hf36]; exact hN9
        have hp9 := hT.2.2.2.2.2.2
        have hk1 := tkd_lt (B := B) (g := g) (m := m) (p := (tkx B g m (tkx B g m (tkx B g m p))))
        have hk2 := tkx_le (B := B) (g := g) (m := m) (p := (tkx B g m (tkx B g m (tkx B g m p)))) hp9
        have hk3 := tka_le (B := B) (g := g) (m := m) (p := (tkx B g m (tkx B g m (tkx B g m p)))) hp9 hB.2.2.1
        have hk4 := tkv_lt (p := (tkx B g m (tkx B g m (tkx B g m p)))) hB hp9
        have hk5 := tkw_lt (B := B) (g := g) (m := m) (p := (tkx B g m (tkx B g m (tkx B g m p))))
        refine lv_if_ne (tgt := 54) hx hb dX12_readDog_49 (by decide) (fun _ => ?_) (fun cc => absurd cc (by decide))
        refine lv_aload_n hx hb dX12_readDog_54 rfl (lv_at hl 1 rfl) ?_
        refine lv_bipush (v := 48) hx hb dX12_readDog_55 (by decide) ?_
        refine lv_iload_n hx hb dX12_readDog_57 rfl (lv_at hl 0 rfl) ?_
        refine lv_iadd hx hb dX12_readDog_58 ?_
        refine zz_top (v := nI (48 + (c 2))) (nI_add 48 (c 2)) ?_
        refine lv_aload_n hx hb dX12_readDog_59 rfl (lv_at hl 1 rfl) ?_
        refine lv_iconst (v := 0) hx hb dX12_readDog_60 (by decide) ?_
        refine lv_bipush (v := 12) hx hb dX12_readDog_61 (by decide) ?_
        refine va_calli (va_runV (As := [.int 0, .int 12]) (rest := [.int (nI (48 + (c 2))), .ref (ar 0)]) ⟨hx, hb, hml, hown, hts⟩ (f_readNumber l dC dI ar cy _ hN st34 sl35 0 12 B g m (tkx B g m (tkx B g m (tkx B g m p))) (by omega) (by omega) hG.1 (MBt.fr hB hF) hT) (cwV 2 hts gX12_readDog_X12_readNumber rfl rfl rfl (by decide +kernel) ⟨Nat.le_of_ble_eq_true rfl, Nat.le_of_ble_eq_true rfl⟩) ⟨fun a U g mk q => ⟨q.1, mPre.blind q.2⟩, va_recv hK hP (ci := 11) (q0 := 0) rfl rfl, fun U hU hW => ⟨rfl, mPre.of hP hK hU hW⟩⟩ rfl rfl hl.1 rfl (lv_room (Nat.le_of_ble_eq_true rfl)) dX12_readDog_63 ⟨Nat.le_of_ble_eq_true rfl, Nat.le_of_ble_eq_true rfl⟩) hS (fun q _ h => MA.le hS.1 q h) (MA.le hS.1) (fun r38 x t H locs ht hvm hw hB9 _ _ hS => ?_)
        have hP := mB.at ht hB9
        clear hB9 ht hvm
        obtain ⟨st39, sl40⟩ := x
        obtain ⟨hG2, hF2, hw⟩ := hw
        dsimp only at hG2 hF2 hw
        have hP : va_P (dC, dI) vwCl (mw ar cy st39 sl40) _ := hP
        have hG : MG [1, 2, 3, 6, 7, 8, 9, 10, 11, 12, 13, 14, 15, 20, 21, 22] st st39 := hG.tr hG2 (by decide)
        have hFst39 : FM 2 st34 sl35 st39 sl40 := hF2
        have hF : FM 4 st sl st39 sl40 := hF.tr hFst39 (by omega) (by omega)
        clear hG2 hF2
        have hR : RT c nm st39 sl40 := hR.fr hFst39 (by omega)
        have hN9 : sl40 8 (13 + (c 2)) = lN (c7 7 (tkc B g (tkx B g m p))) := by rw [(hFst39 8 _ (dm_8 (by omega) _)).2]; exact hN9
        rcases hw with ⟨rfl, hf41, hf42, hf43, hf44, hT, hf45⟩ | ⟨n46, n47, rfl, hf48, hf49, hf50, hf51⟩
        · have hp9 := hT.2.2.2.2.2.2
          have hk1 := tkd_lt (B := B) (g := g) (m := m) (p := (tkx B g m (tkx B g m (tkx B g m (tkx B g m p)))))
          have hk2 := tkx_le (B := B) (g := g) (m := m) (p := (tkx B g m (tkx B g m (tkx B g m (tkx B g m p))))) hp9
          have hk3 := tka_le (B := B) (g := g) (m := m) (p := (tkx B g m (tkx B g m (tkx B g m (tkx B g m p))))) hp9 hB.2.2.1
          have hk4 := tkv_lt (p := (tkx B g m (tkx B g m (tkx B g m (tkx B g m p))))) hB hp9
          have hk5 := tkw_lt (B := B) (g := g) (m := m) (p := (tkx B g m (tkx B g m (tkx B g m (tkx B g m p)))))
          refine va_calli (va_runV (As := [.int (nI (48 + (c 2))), .int 1]) (rest := []) ⟨hx, hb, hml, hown, hts⟩ (f_put48 l dC dI ar cy _ hN st39 sl40 (48 + (c 2)) B g m (tkx B g m (tkx B g m (tkx B g m (tkx B g m p)))) c nm (tkv B g (tkx B g m (tkx B g m (tkx B g m p)))) (by omega) (by omega) hG.1 (MBt.fr hB hF) hT hR (by rw [hf44]) (by omega)) (cwV 2 hts gX12_readDog_X12_put rfl rfl rfl (by decide +kernel) ⟨Nat.le_of_ble_eq_true rfl, Nat.le_of_ble_eq_true rfl⟩) ⟨fun a U g mk q => ⟨q.1, mPre.blind q.2⟩, va_recv hK hP (ci := 11) (q0 := 0) rfl rfl, fun U hU hW => ⟨rfl, mPre.of hP hK hU hW⟩⟩ rfl rfl hl.1 rfl (lv_room (Nat.le_of_ble_eq_true rfl)) dX12_readDog_66 ⟨Nat.le_of_ble_eq_true rfl, Nat.le_of_ble_eq_true rfl⟩) hS (fun q _ h => MA.le hS.1 q h) (MA.le hS.1) (fun r52 x t H locs ht hvm hw hB9 _ _ hS => ?_)
          have hP := mB.at ht hB9
          clear hB9 ht hvm
          obtain ⟨st53, sl54⟩ := x
          obtain ⟨hG2, hF2, hw⟩ := hw
          dsimp only at hG2 hF2 hw
          have hP : va_P (dC, dI) vwCl (mw ar cy st53 sl54) _ := hP
          have hG : MG [1, 2, 3, 6, 7, 8, 9, 10, 11, 12, 13, 14, 15, 20, 21, 22] st st53 := hG.tr hG2 (by decide)
          have hFst53 : FM 4 st39 sl40 st53 sl54 := hF2
          have hF : FM 4 st sl st53 sl54 := hF.tr hFst53 (by omega) (by omega)
          clear hG2 hF2
          obtain ⟨rfl, hf55, hf56, hR, hT⟩ := hw
          have hN9 : sl54 8 (13 + (c 2)) = lN (c7 7 (tkc B g (tkx B g m p))) := by rw [hf55]; exact hN9
          have hp9 := hT.2.2.2.2.2.2
          have hk1 := tkd_lt (B := B) (g := g) (m := m) (p := (tkx B g m (tkx B g m (tkx B g m (tkx B g m p)))))
          have hk2 := tkx_le (B := B) (g := g) (m := m) (p := (tkx B g m (tkx B g m (tkx B g m (tkx B g m p))))) hp9
          have hk3 := tka_le (B := B) (g := g) (m := m) (p := (tkx B g m (tkx B g m (tkx B g m (tkx B g m p))))) hp9 hB.2.2.1
          have hk4 := tkv_lt (p := (tkx B g m (tkx B g m (tkx B g m (tkx B g m p))))) hB hp9
          have hk5 := tkw_lt (B := B) (g := g) (m := m) (p := (tkx B g m (tkx B g m (tkx B g m (tkx B g m p)))))
          refine lv_if_eq (tgt := 90) hx hb dX12_readDog_69 (by decide) (fun cc => absurd cc (by decide)) (fun _ => ?_)
          refine lv_aload_n hx hb dX12_readDog_72 rfl (lv_at hl 1 rfl) ?_
          refine lv_bipush (v := 54) hx hb dX12_readDog_73 (by decide) ?_
          refine lv_iload_n hx hb dX12_readDog_75 rfl (lv_at hl 0 rfl) ?_
          refine lv_iadd hx hb dX12_readDog_76 ?_
          refine zz_top (v := nI (54 + (c 2))) (nI_add 54 (c 2)) ?_
          refine lv_aload_n hx hb dX12_readDog_77 rfl (lv_at hl 1 rfl) ?_
          refine lv_iconst (v := 0) hx hb dX12_readDog_78 (by decide) ?_
          refine lv_bipush (v := 12) hx hb dX12_readDog_79 (by decide) ?_
          refine va_calli (va_runV (As := [.int 0, .int 12]) (rest := [.int (nI (54 + (c 2))), .ref (ar 0)]) ⟨hx, hb, hml, hown, hts⟩ (f_readNumber l dC dI ar cy _ hN st53 sl54 0 12 B g m (tkx B g m (tkx B g m (tkx B g m (tkx B g m p)))) (by omega) (by omega) hG.1 (MBt.fr hB hF) hT) (cwV 2 hts gX12_readDog_X12_readNumber rfl rfl rfl (by decide +kernel) ⟨Nat.le_of_ble_eq_true rfl, Nat.le_of_ble_eq_true rfl⟩) ⟨fun a U g mk q => ⟨q.1, mPre.blind q.2⟩, va_recv hK hP (ci := 11) (q0 := 0) rfl rfl, fun U hU hW => ⟨rfl, mPre.of hP hK hU hW⟩⟩ rfl rfl hl.1 rfl (lv_room (Nat.le_of_ble_eq_true rfl)) dX12_readDog_81 ⟨Nat.le_of_ble_eq_true rfl, Nat.le_of_ble_eq_true rfl⟩) hS (fun q _ h => MA.le hS.1 q h) (MA.le hS.1) (fun r57 x t H locs ht hvm hw hB9 _ _ hS => ?_)
          have hP := mB.at ht hB9
          clear hB9 ht hvm
          obtain ⟨st58, sl59⟩ := x
          obtain ⟨hG2, hF2, hw⟩ := hw
          dsimp only at hG2 hF2 hw
          have hP : va_P (dC, dI) vwCl (mw ar cy st58 sl59) _ := hP
          have hG : MG [1, 2, 3, 6, 7, 8, 9, 10, 11, 12, 13, 14, 15, 20, 21, 22] st st58 := hG.tr hG2 (by decide)
          have hFst58 : FM 2 st53 sl54 st58 sl59 := hF2
          have hF : FM 4 st sl st58 sl59 := hF.tr hFst58 (by omega) (by omega)
          clear hG2 hF2
          have hR : RT c nm st58 sl59 := hR.fr hFst58 (by omega)
          have hN9 : sl59 8 (13 + (c 2)) = lN (c7 7 (tkc B g (tkx B g m p))) := by rw [(hFst58 8 _ (dm_8 (by omega) _)).2]; exact hN9
          rcases hw with ⟨rfl, hf60, hf61, hf62, hf63, hT, hf64⟩ | ⟨n65, n66, rfl, hf67, hf68, hf69, hf70⟩
          · have hp9 := hT.2.2.2.2.2.2
            have hk1 := tkd_lt (B := B) (g := g) (m := m) (p := (tkx B g m (tkx B g m (tkx B g m (tkx B g m (tkx B g m p))))))
            have hk2 := tkx_le (B := B) (g := g) (m := m) (p := (tkx B g m (tkx B g m (tkx B g m (tkx B g m (tkx B g m p)))))) hp9
            have hk3 := tka_le (B := B) (g := g) (m := m) (p := (tkx B g m (tkx B g m (tkx B g m (tkx B g m (tkx B g m p)))))) hp9 hB.2.2.1
            have hk4 := tkv_lt (p := (tkx B g m (tkx B g m (tkx B g m (tkx B g m (tkx B g m p)))))) hB hp9
            have hk5 := tkw_lt (B := B) (g := g) (m := m) (p := (tkx B g m (tkx B g m (tkx B g m (tkx B g m (tkx B g m p))))))
            refine va_calli (va_runV (As := [.int (nI (54 + (c 2))), .int 1]) (rest := []) ⟨hx, hb, hml, hown, hts⟩ (f_put54 l dC dI ar cy _ hN st58 sl59 (54 + (c 2)) B g m (tkx B g m (tkx B g m (tkx B g m (tkx B g m (tkx B g m p))))) c nm (tkv B g (tkx B g m (tkx B g m (tkx B g m (tkx B g m p))))) (by omega) (by omega) hG.1 (MBt.fr hB hF) hT hR (by rw [hf63]) (by omega)) (cwV 2 hts gX12_readDog_X12_put rfl rfl rfl (by decide +kernel) ⟨Nat.le_of_ble_eq_true rfl, Nat.le_of_ble_eq_true rfl⟩) ⟨fun a U g mk q => ⟨q.1, mPre.blind q.2⟩, va_recv hK hP (ci := 11) (q0 := 0) rfl rfl, fun U hU hW => ⟨rfl, mPre.of hP hK hU hW⟩⟩ rfl rfl hl.1 rfl (lv_room (Nat.le_of_ble_eq_true rfl)) dX12_readDog_84 ⟨Nat.le_of_ble_eq_true rfl, Nat.le_of_ble_eq_true rfl⟩) hS (fun q _ h => MA.le hS.1 q h) (MA.le hS.1) (fun r71 x t H locs ht hvm hw hB9 _ _ hS => ?_)
            have hP := mB.at ht hB9
            clear hB9 ht hvm
            obtain ⟨st72, sl73⟩ := x
            obtain ⟨hG2, hF2, hw⟩ := hw
            dsimp only at hG2 hF2 hw
            have hP : va_P (dC, dI) vwCl (mw ar cy st72 sl73) _ := hP
            have hG : MG [1, 2, 3, 6, 7, 8, 9, 10, 11, 12, 13, 14, 15, 20, 21, 22] st st72 := hG.tr hG2 (by decide)
            have hFst72 : FM 4 st58 sl59 st72 sl73 := hF2
            have hF : FM 4 st sl st72 sl73 := hF.tr hFst72 (by omega) (by omega)
            clear hG2 hF2
            obtain ⟨rfl, hf74, hf75, hR, hT⟩ := hw
            have hN9 : sl73 8 (13 + (c 2)) = lN (c7 7 (tkc B g (tkx B g m p))) := by rw [hf74]; exact hN9
            have hp9 := hT.2.2.2.2.2.2
            have hk1 := tkd_lt (B := B) (g := g) (m := m) (p := (tkx B g m (tkx B g m (tkx B g m (tkx B g m (tkx B g m p))))))
            have hk2 := tkx_le (B := B) (g := g) (m := m) (p := (tkx B g m (tkx B g m (tkx B g m (tkx B g m (tkx B g m p)))))) hp9
            have hk3 := tka_le (B := B) (g := g) (m := m) (p := (tkx B g m (tkx B g m (tkx B g m (tkx B g m (tkx B g m p)))))) hp9 hB.2.2.1
            have hk4 := tkv_lt (p := (tkx B g m (tkx B g m (tkx B g m (tkx B g m (tkx B g m p)))))) hB hp9
            have hk5 := tkw_lt (B := B) (g := g) (m := m) (p := (tkx B g m (tkx B g m (tkx B g m (tkx B g m (tkx B g m p))))))
            refine lv_if_ne (tgt := 92) hx hb dX12_readDog_87 (by decide) (fun _ => ?_) (fun cc => absurd cc (by decide))
            refine lv_aload_n hx hb dX12_readDog_92 rfl (lv_at hl 1 rfl) ?_
            refine va_get (D := (dC, dI)) (ci := 11) (v := .ref (ar 3)) (C := RX12) (T := TX12) (N := 47) hx hb hts ii_X12_readDog hown hK hP 0 rfl rfl 15 (by decide) (hts _ mm_X12_readDog_1) (fun _ hh => hh) rfl dX12_readDog_93 ?_
            refine lv_iconst (v := 2) hx hb dX12_readDog_96 (by decide) ?_
            refine lv_dup2_11 hx hb dX12_readDog_97 rfl rfl ?_
            refine va_iald hx hb hK hP 3 2 rfl rfl (i := 2) (zz_in (by decide)) dX12_readDog_98 ?_
            refine zz_top (v := (nI (c 2))) (by show st72 3 2 = _; rw [hR.2.2.1]) ?_
            refine lv_iconst (v := 1) hx hb dX12_readDog_99 (by decide) ?_
            refine lv_iadd hx hb dX12_readDog_100 ?_
            refine zz_top (v := nI ((c 2) + 1)) (nI_add (c 2) 1) ?_
            refine va_iast hx hb hK hP (mD hN _ _ _ _) hS 3 2 rfl rfl (i := 2) (zz_in (by decide)) dX12_readDog_101 (fun H locs hP _ hS => ?_)
            have hP : va_P (dC, dI) vwCl (mw ar cy (up2 st72 3 2 (nI ((c 2) + 1))) sl73) H := hP
            obtain ⟨st76, est76⟩ : ∃ y, y = up2 st72 3 2 (nI ((c 2) + 1)) := ⟨_, rfl⟩
            have hG : MG [1, 2, 3, 6, 7, 8, 9, 10, 11, 12, 13, 14, 15, 20, 21, 22] st st76 := by rw [est76]; exact hG.up (rn (n := ((c 2) + 1)) (by decide : mr 3 2 = 7) (by omega)) (pn (by decide : pcl 3 2 = 19) (by decide))
            rw [← est76] at hP
            have hF : FM 4 st sl st76 sl73 := by rw [est76]; exact hF.up (by decide)
            have hT : TM B g m (tkx B g m (tkx B g m (tkx B g m (tkx B g m (tkx B g m p))))) st76 sl73 := by rw [est76]; exact hT.up (by omega)
            have hR : RT (uN c 2 (c 2 + 1)) (uM nm 2 (c 2) (tkc B g (tkx B g m p))) st76 sl73 := by rw [est76]; exact hR.inc (a := 2) (by decide) ⟨by omega, by omega, by omega⟩ hf12 hN9
            refine lv_iconst (v := 1) hx hb dX12_readDog_102 (by decide) ?_
            exact W.zret (v := 1) hx hb hr rfl (fun t ht hW => ⟨⟨1, (st76, sl73), rfl, ⟨hG, hF, Or.inl (⟨(uN c 2 (c 2 + 1)), (uM nm 2 (c 2) (tkc B g (tkx B g m p))), (tkx B g m (tkx B g m (tkx B g m (tkx B g m (tkx B g m p))))), rfl, hR, hT, uN_sum (a := 2) (by decide) rfl, by unfold lDog; rw [if_neg hf4, hf13, hf26, hf45, hf64]⟩)⟩, mB.of ht hP⟩, hS.F ht⟩) hS.2.2 dX12_readDog_103
          · refine va_calli (va_runV (As := [.int (nI (54 + (c 2))), .int 0]) (rest := []) ⟨hx, hb, hml, hown, hts⟩ (f_putF l dC dI ar cy _ hN st58 sl59 (54 + (c 2)) (by omega) hG.1 ) (cwV 2 hts gX12_readDog_X12_put rfl rfl rfl (by decide +kernel) ⟨Nat.le_of_ble_eq_true rfl, Nat.le_of_ble_eq_true rfl⟩) ⟨fun a U g mk q => ⟨q.1, mPre.blind q.2⟩, va_recv hK hP (ci := 11) (q0 := 0) rfl rfl, fun U hU hW => ⟨rfl, mPre.of hP hK hU hW⟩⟩ rfl rfl hl.1 rfl (lv_room (Nat.le_of_ble_eq_true rfl)) dX12_readDog_84 ⟨Nat.le_of_ble_eq_true rfl, Nat.le_of_ble_eq_true rfl⟩) hS (fun q _ h => MA.le hS.1 q h) (MA.le hS.1) (fun r77 x t H locs ht hvm hw hB9 _ _ hS => ?_)
            have hP := mB.at ht hB9
            clear hB9 ht hvm
            obtain ⟨rfl, hw⟩ := hw
            have hP : va_P (dC, dI) vwCl (mw ar cy st58 sl59) _ := hP
            obtain rfl := hw
            refine lv_if_ne (tgt := 92) hx hb dX12_readDog_87 (by decide) (fun cc => absurd (by decide) cc) (fun _ => ?_)
            refine lv_iconst (v := 0) hx hb dX12_readDog_90 (by decide) ?_
            exact W.zret (v := 0) hx hb hr rfl (fun t ht hW => ⟨⟨0, (st58, sl59), rfl, ⟨hG, hF, Or.inr (⟨n65, n66, rfl, by show st58 0 10 = _; rw [hf67], by show st58 0 11 = _; rw [hf68], by omega, by unfold lDog; rw [if_neg hf4, hf13, hf26, hf45, hf70]⟩)⟩, mB.of ht hP⟩, hS.F ht⟩) hS.2.2 dX12_readDog_91
        · refine va_calli (va_runV (As := [.int (nI (48 + (c 2))), .int 0]) (rest := []) ⟨hx, hb, hml, hown, hts⟩ (f_putF l dC dI ar cy _ hN st39 sl40 (48 + (c 2)) (by omega) hG.1 ) (cwV 2 hts gX12_readDog_X12_put rfl rfl rfl (by decide +kernel) ⟨Nat.le_of_ble_eq_true rfl, Nat.le_of_ble_eq_true rfl⟩) ⟨fun a U g mk q => ⟨q.1, mPre.blind q.2⟩, va_recv hK hP (ci := 11) (q0 := 0) rfl rfl, fun U hU hW => ⟨rfl, mPre.of hP hK hU hW⟩⟩ rfl rfl hl.1 rfl (lv_room (Nat.le_of_ble_eq_true rfl)) dX12_readDog_66 ⟨Nat.le_of_ble_eq_true rfl, Nat.le_of_ble_eq_true rfl⟩) hS (fun q _ h => MA.le hS.1 q h) (MA.le hS.1) (fun r78 x t H locs ht hvm hw hB9 _ _ hS => ?_)
          have hP := mB.at ht hB9
          clear hB9 ht hvm
          obtain ⟨rfl, hw⟩ := hw
          have hP : va_P (dC, dI) vwCl (mw ar cy st39 sl40) _ := hP
          obtain rfl := hw
          refine lv_if_eq (tgt := 90) hx hb dX12_readDog_69 (by decide) (fun _ => ?_) (fun cc => absurd (by decide) cc)
          refine lv_iconst (v := 0) hx hb dX12_readDog_90 (by decide) ?_
          exact W.zret (v := 0) hx hb hr rfl (fun t ht hW => ⟨⟨0, (st39, sl40), rfl, ⟨hG, hF, Or.inr (⟨n46, n47, rfl, by show st39 0 10 = _; rw [hf48], by show st39 0 11 = _; rw [hf49], by omega, by unfold lDog; rw [if_neg hf4, hf13, hf26, hf51]⟩)⟩, mB.of ht hP⟩, hS.F ht⟩) hS.2.2 dX12_readDog_91
      · refine va_calli (va_runV (As := [.int (nI (42 + (c 2))), .int 0]) (rest := []) ⟨hx, hb, hml, hown, hts⟩ (f_putF l dC dI ar cy _ hN st21 sl22 (42 + (c 2)) (by omega) hG.1 ) (cwV 2 hts gX12_readDog_X12_put rfl rfl rfl (by decide +kernel) ⟨Nat.le_of_ble_eq_true rfl, Nat.le_of_ble_eq_true rfl⟩) ⟨fun a U g mk q => ⟨q.1, mPre.blind q.2⟩, va_recv hK hP (ci := 11) (q0 := 0) rfl rfl, fun U hU hW => ⟨rfl, mPre.of hP hK hU hW⟩⟩ rfl rfl hl.1 rfl (lv_room (Nat.le_of_ble_eq_true rfl)) dX12_readDog_46 ⟨Nat.le_of_ble_eq_true rfl, Nat.le_of_ble_eq_true rfl⟩) hS (fun q _ h => MA.le hS.1 q h) (MA.le hS.1) (fun r79 x t H locs ht hvm hw hB9 _ _ hS => ?_)
        have hP := mB.at ht hB9
        clear hB9 ht hvm
        obtain ⟨rfl, hw⟩ := hw
        have hP : va_P (dC, dI) vwCl (mw ar cy st21 sl22) _ := hP
        obtain rfl := hw
        refine lv_if_ne (tgt := 54) hx hb dX12_readDog_49 (by decide) (fun cc => absurd (by decide) cc) (fun _ => ?_)
        refine lv_iconst (v := 0) hx hb dX12_readDog_52 (by decide) ?_
        exact W.zret (v := 0) hx hb hr rfl (fun t ht hW => ⟨⟨0, (st21, sl22), rfl, ⟨hG, hF, Or.inr (⟨n27, n28, rfl, by show st21 0 10 = _; rw [hf29], by show st21 0 11 = _; rw [hf30], by omega, by unfold lDog; rw [if_neg hf4, hf13, hf32]⟩)⟩, mB.of ht hP⟩, hS.F ht⟩) hS.2.2 dX12_readDog_53
    · refine lv_if_eq (tgt := 52) hx hb dX12_readDog_27 (by decide) (fun _ => ?_) (fun cc => absurd (by decide) cc)
      refine lv_iconst (v := 0) hx hb dX12_readDog_52 (by decide) ?_
      exact W.zret (v := 0) hx hb hr rfl (fun t ht hW => ⟨⟨0, (st9, sl10), rfl, ⟨hG, hF, Or.inr (⟨n14, n15, rfl, by show st9 0 10 = _; rw [hf16], by show st9 0 11 = _; rw [hf17], by omega, by unfold lDog; rw [if_neg hf4, hf19]⟩)⟩, mB.of ht hP⟩, hS.F ht⟩) hS.2.2 dX12_readDog_53
  · refine lv_if_ne (tgt := 12) hx hb dX12_readDog_7 (by decide) (fun cc => absurd (by decide) cc) (fun _ => ?_)
    refine lv_iconst (v := 0) hx hb dX12_readDog_10 (by decide) ?_
    exact W.zret (v := 0) hx hb hr rfl (fun t ht hW => ⟨⟨0, (st2, sl3), rfl, ⟨hG, hF, Or.inr (⟨4, (tka B g m p), rfl, by show st2 0 10 = _; rw [hf6], by show st2 0 11 = _; rw [hf7], by omega, by unfold lDog; rw [if_pos hf5]⟩)⟩, mB.of ht hP⟩, hS.F ht⟩) hS.2.2 dX12_readDog_11
