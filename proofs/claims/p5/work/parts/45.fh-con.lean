set_option maxHeartbeats 4000000 in
set_option maxRecDepth 100000 in
theorem f_readPlace (l : Launch) (dC : Nat → ClassId) (dI : Nat → Nat → Nat) (ar : Nat → Nat) (cy : Nat → ClassId) (sz : Nat) (hN : MN ar) (st : Nat → Nat → Int32) (sl : Nat → Nat → Int64) (B : Nat → Nat) (g m : Nat) (p : Nat) (c : Nat → Nat) (nm : Nat → Nat → Nat) (hI : MI st) (hB : MBt B g m st) (hT : TM B g m p st sl) (hR : RT c nm st sl) (hw : tkw B g m p = 0) : Met l yX12_readPlace wsX12_readPlace ({ frames := 4, cells := 0, slots := 0, locals := 90 }) (va_Pc [.ref (ar 0)] (mPre dC dI ar cy sz st sl)) (va_Qi (fun (r : Int32) (x : MT) => MG [1, 2, 3, 6, 7, 8, 9, 10, 11, 12, 13, 14, 15, 20, 21, 22] st x.1 ∧ FM 4 st sl x.1 x.2 ∧ ((∃ c1 : Nat → Nat, ∃ n1 : Nat → Nat → Nat, ∃ q : Nat, r = 1 ∧ RT c1 n1 x.1 x.2 ∧ TM B g m q x.1 x.2 ∧ c1 0 + c1 1 + c1 2 + c1 3 + c1 4 = c 0 + c 1 + c 2 + c 3 + c 4 + 1 ∧ lPlace B g m p c nm = eEnd B g m q (fun p2 => (0, p2, c1, n1)) ∧ x.1 0 10 = st 0 10) ∨ (∃ f : Nat, ∃ a : Nat, r = 0 ∧ x.1 0 10 = nI f ∧ x.1 0 11 = nI a ∧ 1 ≤ f ∧ lPlace B g m p c nm = fl f a))) (mB dC dI ar cy) (MA ar sz)) 0 0 (MA ar sz) := by
  refine Met.ofW (cc := cX12_readPlace) (maxL := 1) (ret := (some .boolean)) (by decide) rfl ?_
  intro p9 e s m9 args below meth c9 s₁ B9 hml hv
  obtain ⟨rfl, hsz, hP, hK⟩ := hv
  have hx := B9.exec
  have hb := B9.bytes
  have hr := B9.returns
  have hts := atoms_spec (ws := wsX12_readPlace) B9.pre
  have hown : s.vm.findClass RX12 = some m9.cls := findClass_of_methodNamed B9.named
  subst hsz
  have hS : va_S (MA ar s.heap.size) s.heap s.heap [] := va_S.rf
  have hG : MG [1, 2, 3, 6, 7, 8, 9, 10, 11, 12, 13, 14, 15, 20, 21, 22] st st := MG.rf hI
  have hl := lv_entry ([.ref (ar 0)]) (n := 1) (Nat.le_of_ble_eq_true rfl)
  rw [lg_entry_eq]
  generalize (lg_sl ([.ref (ar 0)]) ++ List.replicate (1 - (lg_sl ([.ref (ar 0)])).length) Slot.unset).toArray = ls at hl ⊢
  have hl : lv_has ls 1 [(0, .ref (ar 0))] := hl
  clear hI
  have hB1 := hB.2.2.1
  have hB2 := hB.2.2.2.1
  have hF : FM 4 st sl st sl := FM.rf
  have hp9 := hT.2.2.2.2.2.2
  have hk1 := tkd_lt (B := B) (g := g) (m := m) (p := p)
  have hk2 := tkx_le (B := B) (g := g) (m := m) (p := p) hp9
  have hk3 := tka_le (B := B) (g := g) (m := m) (p := p) hp9 hB.2.2.1
  have hk4 := tkv_lt (p := p) hB hp9
  have hk5 := tkw_lt (B := B) (g := g) (m := m) (p := p)
  have hR9 := hR.2.2.2.2.2.1
  refine lv_aload_n hx hb dX12_readPlace_0 rfl (lv_at hl 0 rfl) ?_
  refine lv_iconst (v := 0) hx hb dX12_readPlace_1 (by decide) ?_
  refine lv_iconst (v := 5) hx hb dX12_readPlace_2 (by decide) ?_
  refine va_calli (va_runV (As := [.int 0, .int 5]) (rest := []) ⟨hx, hb, hml, hown, hts⟩ (f_readFirst0 l dC dI ar cy _ hN st sl B g m p c nm hG.1 (MBt.fr hB hF) hT hR (by have h9 := @tkw_d B g m p; omega)) (cwV 2 hts gX12_readPlace_X12_readFirst rfl rfl rfl (by decide +kernel) ⟨Nat.le_of_ble_eq_true rfl, Nat.le_of_ble_eq_true rfl⟩) ⟨fun a U g mk q => ⟨q.1, mPre.blind q.2⟩, va_recv hK hP (ci := 11) (q0 := 0) rfl rfl, fun U hU hW => ⟨rfl, mPre.of hP hK hU hW⟩⟩ rfl rfl hl.1 rfl (lv_room (Nat.le_of_ble_eq_true rfl)) dX12_readPlace_3 ⟨Nat.le_of_ble_eq_true rfl, Nat.le_of_ble_eq_true rfl⟩) hS (fun q _ h => MA.le hS.1 q h) (MA.le hS.1) (fun r1 x t H locs ht hvm hw hB9 _ _ hS => ?_)
  have hP := mB.at ht hB9
  clear hB9 ht hvm
  obtain ⟨st2, sl3⟩ := x
  obtain ⟨hG2, hF2, hw⟩ := hw
  dsimp only at hG2 hF2 hw
  have hP : va_P (dC, dI) vwCl (mw ar cy st2 sl3) _ := hP
  have hG : MG [1, 2, 3, 6, 7, 8, 9, 10, 11, 12, 13, 14, 15, 20, 21, 22] st st2 := hG.tr hG2 (by decide)
  have hFst2 : FM 2 st sl st2 sl3 := hF2
  have hF : FM 4 st sl st2 sl3 := hF.tr hFst2 (by omega) (by omega)
  clear hG2 hF2
  have hR : RT c nm st2 sl3 := hR.fr hFst2 (by omega)
  rcases hw with ⟨rfl, hf4, hT, hkx5⟩ | ⟨rfl, hf6, hf7, hf8⟩
  · have hp9 := hT.2.2.2.2.2.2
    have hk1 := tkd_lt (B := B) (g := g) (m := m) (p := (tkx B g m p))
    have hk2 := tkx_le (B := B) (g := g) (m := m) (p := (tkx B g m p)) hp9
    have hk3 := tka_le (B := B) (g := g) (m := m) (p := (tkx B g m p)) hp9 hB.2.2.1
    have hk4 := tkv_lt (p := (tkx B g m p)) hB hp9
    have hk5 := tkw_lt (B := B) (g := g) (m := m) (p := (tkx B g m p))
    refine lv_if_eq (tgt := 22) hx hb dX12_readPlace_6 (by decide) (fun cc => absurd cc (by decide)) (fun _ => ?_)
    refine lv_aload_n hx hb dX12_readPlace_9 rfl (lv_at hl 0 rfl) ?_
    refine lv_aload_n hx hb dX12_readPlace_10 rfl (lv_at hl 0 rfl) ?_
    refine va_get (D := (dC, dI)) (ci := 11) (v := .ref (ar 3)) (C := RX12) (T := TX12) (N := 47) hx hb hts ii_X12_readPlace hown hK hP 0 rfl rfl 15 (by decide) (hts _ mm_X12_readPlace_1) (fun _ hh => hh) rfl dX12_readPlace_11 ?_
    refine lv_iconst (v := 0) hx hb dX12_readPlace_14 (by decide) ?_
    refine va_iald hx hb hK hP 3 2 rfl rfl (i := 0) (zz_in (by decide)) dX12_readPlace_15 ?_
    refine zz_top (v := (nI (c 0))) (by show st2 3 0 = _; rw [hR.1]) ?_
    refine va_calli (va_runV (As := [.int (nI (c 0))]) (rest := []) ⟨hx, hb, hml, hown, hts⟩ (f_readNew l dC dI ar cy _ hN st2 sl3 (c 0) B g m (tkx B g m p) c nm (by omega) hG.1 (MBt.fr hB hF) hT hR (fun a ha i hi e => hR.free (b := 0) (by decide) ⟨by omega, by omega⟩ a ha i hi (by rw [e]; exact (Nat.zero_add _).symm))) (cwV 1 hts gX12_readPlace_X12_readNew rfl rfl rfl (by decide +kernel) ⟨Nat.le_of_ble_eq_true rfl, Nat.le_of_ble_eq_true rfl⟩) ⟨fun a U g mk q => ⟨q.1, mPre.blind q.2⟩, va_recv hK hP (ci := 11) (q0 := 0) rfl rfl, fun U hU hW => ⟨rfl, mPre.of hP hK hU hW⟩⟩ rfl rfl hl.1 rfl (lv_room (Nat.le_of_ble_eq_true rfl)) dX12_readPlace_16 ⟨Nat.le_of_ble_eq_true rfl, Nat.le_of_ble_eq_true rfl⟩) hS (fun q _ h => MA.le hS.1 q h) (MA.le hS.1) (fun r9 x t H locs ht hvm hw hB9 _ _ hS => ?_)
    have hP := mB.at ht hB9
    clear hB9 ht hvm
    obtain ⟨st10, sl11⟩ := x
    obtain ⟨hG2, hF2, hw⟩ := hw
    dsimp only at hG2 hF2 hw
    have hP : va_P (dC, dI) vwCl (mw ar cy st10 sl11) _ := hP
    have hG : MG [1, 2, 3, 6, 7, 8, 9, 10, 11, 12, 13, 14, 15, 20, 21, 22] st st10 := hG.tr hG2 (by decide)
    have hFst10 : FM 3 st2 sl3 st10 sl11 := hF2
    have hF : FM 4 st sl st10 sl11 := hF.tr hFst10 (by omega) (by omega)
    clear hG2 hF2
    rcases hw with ⟨rfl, hf12, hN9, hf13, hR, hT, hf14, hk15⟩ | ⟨n16, n17, rfl, hf18, hf19, hf20, hf21⟩
    · have hp9 := hT.2.2.2.2.2.2
      have hk1 := tkd_lt (B := B) (g := g) (m := m) (p := (tkx B g m (tkx B g m p)))
      have hk2 := tkx_le (B := B) (g := g) (m := m) (p := (tkx B g m (tkx B g m p))) hp9
      have hk3 := tka_le (B := B) (g := g) (m := m) (p := (tkx B g m (tkx B g m p))) hp9 hB.2.2.1
      have hk4 := tkv_lt (p := (tkx B g m (tkx B g m p))) hB hp9
      have hk5 := tkw_lt (B := B) (g := g) (m := m) (p := (tkx B g m (tkx B g m p)))
      refine lv_if_ne (tgt := 24) hx hb dX12_readPlace_19 (by decide) (fun _ => ?_) (fun cc => absurd cc (by decide))
      refine lv_aload_n hx hb dX12_readPlace_24 rfl (lv_at hl 0 rfl) ?_
      refine lv_iconst (v := 1) hx hb dX12_readPlace_25 (by decide) ?_
      refine va_calli (va_runV (As := [.int 1]) (rest := []) ⟨hx, hb, hml, hown, hts⟩ (f_isWord1 l dC dI ar cy _ hN st10 sl11 B g m (tkx B g m (tkx B g m p)) hG.1 (MBt.fr hB hF) hT) (cwV 1 hts gX12_readPlace_X12_isWord rfl rfl rfl (by decide +kernel) ⟨Nat.le_of_ble_eq_true rfl, Nat.le_of_ble_eq_true rfl⟩) ⟨fun a U g mk q => ⟨q.1, mPre.blind q.2⟩, va_recv hK hP (ci := 11) (q0 := 0) rfl rfl, fun U hU hW => ⟨rfl, mPre.of hP hK hU hW⟩⟩ rfl rfl hl.1 rfl (lv_room (Nat.le_of_ble_eq_true rfl)) dX12_readPlace_26 ⟨Nat.le_of_ble_eq_true rfl, Nat.le_of_ble_eq_true rfl⟩) hS (fun q _ h => MA.le hS.1 q h) (MA.le hS.1) (fun r22 x t H locs ht hvm hw hB9 _ _ hS => ?_)
      have hP := mB.at ht hB9
      clear hB9 ht hvm
      obtain ⟨rfl, hw⟩ := hw
      have hP : va_P (dC, dI) vwCl (mw ar cy st10 sl11) _ := hP
      rcases hw with ⟨rfl, hf23⟩ | ⟨rfl, hf24⟩
      · refine lv_if_eq (tgt := 54) hx hb dX12_readPlace_29 (by decide) (fun cc => absurd cc (by decide)) (fun _ => ?_)
        refine lv_aload_n hx hb dX12_readPlace_32 rfl (lv_at hl 0 rfl) ?_
        refine va_get (D := (dC, dI)) (ci := 11) (v := .ref (ar 3)) (C := RX12) (T := TX12) (N := 47) hx hb hts ii_X12_readPlace hown hK hP 0 rfl rfl 15 (by decide) (hts _ mm_X12_readPlace_1) (fun _ hh => hh) rfl dX12_readPlace_33 ?_
        refine lv_bipush (v := 9) hx hb dX12_readPlace_36 (by decide) ?_
        refine lv_dup2_11 hx hb dX12_readPlace_38 rfl rfl ?_
        refine va_iald hx hb hK hP 3 2 rfl rfl (i := 9) (zz_in (by decide)) dX12_readPlace_39 ?_
        refine lv_topi (fun z25 ez25 => ?_)
        refine lv_iconst (v := 1) hx hb dX12_readPlace_40 (by decide) ?_
        refine lv_aload_n hx hb dX12_readPlace_41 rfl (lv_at hl 0 rfl) ?_
        refine va_get (D := (dC, dI)) (ci := 11) (v := .ref (ar 3)) (C := RX12) (T := TX12) (N := 47) hx hb hts ii_X12_readPlace hown hK hP 0 rfl rfl 15 (by decide) (hts _ mm_X12_readPlace_1) (fun _ hh => hh) rfl dX12_readPlace_42 ?_
        refine lv_iconst (v := 0) hx hb dX12_readPlace_45 (by decide) ?_
        refine va_iald hx hb hK hP 3 2 rfl rfl (i := 0) (zz_in (by decide)) dX12_readPlace_46 ?_
        refine zz_top (v := (nI (c 0))) (by show st10 3 0 = _; rw [hR.1]) ?_
        refine lv_ishl hx hb dX12_readPlace_47 ?_
        refine lv_topi (fun z26 ez26 => ?_)
        refine lv_ior hx hb dX12_readPlace_48 ?_
        refine lv_topi (fun z27 ez27 => ?_)
        refine va_iast hx hb hK hP (mD hN _ _ _ _) hS 3 2 rfl rfl (i := 9) (zz_in (by decide)) dX12_readPlace_49 (fun H locs hP _ hS => ?_)
        have hP : va_P (dC, dI) vwCl (mw ar cy (up2 st10 3 9 z27) sl11) H := hP
        obtain ⟨st28, est28⟩ : ∃ y, y = up2 st10 3 9 z27 := ⟨_, rfl⟩
        have hG : MG [1, 2, 3, 6, 7, 8, 9, 10, 11, 12, 13, 14, 15, 20, 21, 22] st st28 := by rw [est28]; exact hG.up (rz (by decide : mr 3 9 = 0)) (pn (by decide : pcl 3 9 = 0) (by decide))
        rw [← est28] at hP
        have hF : FM 4 st sl st28 sl11 := by rw [est28]; exact hF.up (by decide)
        have hT : TM B g m (tkx B g m (tkx B g m p)) st28 sl11 := by rw [est28]; exact hT.up (by omega)
        have hR : RT c nm st28 sl11 := by rw [est28]; exact hR.up3 (by omega)
        refine lv_aload_n hx hb dX12_readPlace_50 rfl (lv_at hl 0 rfl) ?_
        refine va_callv (va_runV (As := []) (rest := []) ⟨hx, hb, hml, hown, hts⟩ (f_go l dC dI ar cy _ hN st28 sl11 B g m (tkx B g m (tkx B g m (tkx B g m p))) hG.1 (MBt.fr hB hF) hT.1 hk2.2) (cwV 0 hts gX12_readPlace_X12_go rfl rfl rfl (by decide +kernel) ⟨Nat.le_of_ble_eq_true rfl, Nat.le_of_ble_eq_true rfl⟩) ⟨fun a U g mk q => ⟨q.1, mPre.blind q.2⟩, va_recv hK hP (ci := 11) (q0 := 0) rfl rfl, fun U hU hW => ⟨rfl, mPre.of hP hK hU hW⟩⟩ rfl rfl hl.1 rfl (lv_room (Nat.le_of_ble_eq_true rfl)) dX12_readPlace_51 ⟨Nat.le_of_ble_eq_true rfl, Nat.le_of_ble_eq_true rfl⟩) hS (fun q _ h => MA.le hS.1 q h) (MA.le hS.1) (fun x t H locs ht hvm hw hB9 _ _ hS => ?_)
        have hP := mB.at ht hB9
        clear hB9 ht hvm
        obtain ⟨st30, sl31⟩ := x
        obtain ⟨hG2, hF2, hw⟩ := hw
        dsimp only at hG2 hF2 hw
        have hP : va_P (dC, dI) vwCl (mw ar cy st30 sl31) _ := hP
        have hG : MG [1, 2, 3, 6, 7, 8, 9, 10, 11, 12, 13, 14, 15, 20, 21, 22] st st30 := hG.tr hG2 (by decide)
        have hFst30 : FM 1 st28 sl11 st30 sl31 := hF2
        have hF : FM 4 st sl st30 sl31 := hF.tr hFst30 (by omega) (by omega)
        clear hG2 hF2
        have hR : RT c nm st30 sl31 := hR.fr hFst30 (by omega)
        have hN9 : sl31 8 (c 0) = lN (c7 7 (tkc B g (tkx B g m p))) := by rw [(hFst30 8 _ (dm_8 (by omega) _)).2]; exact hN9
        have hT := hw
        have hp9 := hT.2.2.2.2.2.2
        have hk1 := tkd_lt (B := B) (g := g) (m := m) (p := (tkx B g m (tkx B g m (tkx B g m p))))
        have hk2 := tkx_le (B := B) (g := g) (m := m) (p := (tkx B g m (tkx B g m (tkx B g m p)))) hp9
        have hk3 := tka_le (B := B) (g := g) (m := m) (p := (tkx B g m (tkx B g m (tkx B g m p)))) hp9 hB.2.2.1
        have hk4 := tkv_lt (p := (tkx B g m (tkx B g m (tkx B g m p)))) hB hp9
        have hk5 := tkw_lt (B := B) (g := g) (m := m) (p := (tkx B g m (tkx B g m (tkx B g m p))))
        refine lv_aload_n hx hb dX12_readPlace_54 rfl (lv_at hl 0 rfl) ?_
        refine va_get (D := (dC, dI)) (ci := 11) (v := .ref (ar 3)) (C := RX12) (T := TX12) (N := 47) hx hb hts ii_X12_readPlace hown hK hP 0 rfl rfl 15 (by decide) (hts _ mm_X12_readPlace_1) (fun _ hh => hh) rfl dX12_readPlace_55 ?_
        refine lv_iconst (v := 0) hx hb dX12_readPlace_58 (by decide) ?_
        refine lv_dup2_11 hx hb dX12_readPlace_59 rfl rfl ?_
        refine va_iald hx hb hK hP 3 2 rfl rfl (i := 0) (zz_in (by decide)) dX12_readPlace_60 ?_
        refine zz_top (v := (nI (c 0))) (by show st30 3 0 = _; rw [hR.1]) ?_
        refine lv_iconst (v := 1) hx hb dX12_readPlace_61 (by decide) ?_
        refine lv_iadd hx hb dX12_readPlace_62 ?_
        refine zz_top (v := nI ((c 0) + 1)) (nI_add (c 0) 1) ?_
        refine va_iast hx hb hK hP (mD hN _ _ _ _) hS 3 2 rfl rfl (i := 0) (zz_in (by decide)) dX12_readPlace_63 (fun H locs hP _ hS => ?_)
        have hP : va_P (dC, dI) vwCl (mw ar cy (up2 st30 3 0 (nI ((c 0) + 1))) sl31) H := hP
        obtain ⟨st32, est32⟩ : ∃ y, y = up2 st30 3 0 (nI ((c 0) + 1)) := ⟨_, rfl⟩
        have hG : MG [1, 2, 3, 6, 7, 8, 9, 10, 11, 12, 13, 14, 15, 20, 21, 22] st st32 := by rw [est32]; exact hG.up (rn (n := ((c 0) + 1)) (by decide : mr 3 0 = 6) (by omega)) (pn (by decide : pcl 3 0 = 19) (by decide))
        rw [← est32] at hP
        have hF : FM 4 st sl st32 sl31 := by rw [est32]; exact hF.up (by decide)
        have hT : TM B g m (tkx B g m (tkx B g m (tkx B g m p))) st32 sl31 := by rw [est32]; exact hT.up (by omega)
        have hR : RT (uN c 0 (c 0 + 1)) (uM nm 0 (c 0) (tkc B g (tkx B g m p))) st32 sl31 := by rw [est32]; exact hR.inc (a := 0) (by decide) ⟨by omega, by omega, by omega⟩ hf13 (by rw [show bs 0 + c 0 = c 0 from Nat.zero_add _]; exact hN9)
        refine lv_iconst (v := 1) hx hb dX12_readPlace_64 (by decide) ?_
        exact W.zret (v := 1) hx hb hr rfl (fun t ht hW => ⟨⟨1, (st32, sl31), rfl, ⟨hG, hF, Or.inl (⟨(uN c 0 (c 0 + 1)), (uM nm 0 (c 0) (tkc B g (tkx B g m p))), (tkx B g m (tkx B g m (tkx B g m p))), rfl, hR, hT, uN_sum (a := 0) (by decide) rfl, by unfold lPlace; rw [if_neg hf4, hf14, if_pos hf23], by show st32 0 10 = st 0 10; rw [est32, up2_ne (r := 3) (k := 0) (a := 0) (j := 10) _ _ (by omega), (hFst30 0 10 (by decide)).1, est28, up2_ne (r := 3) (k := 9) (a := 0) (j := 10) _ _ (by omega), hk15, hkx5]⟩)⟩, mB.of ht hP⟩, hS.F ht⟩) hS.2.2 dX12_readPlace_65
      · refine lv_if_eq (tgt := 54) hx hb dX12_readPlace_29 (by decide) (fun _ => ?_) (fun cc => absurd (by decide) cc)
        refine lv_aload_n hx hb dX12_readPlace_54 rfl (lv_at hl 0 rfl) ?_
        refine va_get (D := (dC, dI)) (ci := 11) (v := .ref (ar 3)) (C := RX12) (T := TX12) (N := 47) hx hb hts ii_X12_readPlace hown hK hP 0 rfl rfl 15 (by decide) (hts _ mm_X12_readPlace_1) (fun _ hh => hh) rfl dX12_readPlace_55 ?_
        refine lv_iconst (v := 0) hx hb dX12_readPlace_58 (by decide) ?_
        refine lv_dup2_11 hx hb dX12_readPlace_59 rfl rfl ?_
        refine va_iald hx hb hK hP 3 2 rfl rfl (i := 0) (zz_in (by decide)) dX12_readPlace_60 ?_
        refine zz_top (v := (nI (c 0))) (by show st10 3 0 = _; rw [hR.1]) ?_
        refine lv_iconst (v := 1) hx hb dX12_readPlace_61 (by decide) ?_
        refine lv_iadd hx hb dX12_readPlace_62 ?_
        refine zz_top (v := nI ((c 0) + 1)) (nI_add (c 0) 1) ?_
        refine va_iast hx hb hK hP (mD hN _ _ _ _) hS 3 2 rfl rfl (i := 0) (zz_in (by decide)) dX12_readPlace_63 (fun H locs hP _ hS => ?_)
        have hP : va_P (dC, dI) vwCl (mw ar cy (up2 st10 3 0 (nI ((c 0) + 1))) sl11) H := hP
        obtain ⟨st33, est33⟩ : ∃ y, y = up2 st10 3 0 (nI ((c 0) + 1)) := ⟨_, rfl⟩
        have hG : MG [1, 2, 3, 6, 7, 8, 9, 10, 11, 12, 13, 14, 15, 20, 21, 22] st st33 := by rw [est33]; exact hG.up (rn (n := ((c 0) + 1)) (by decide : mr 3 0 = 6) (by omega)) (pn (by decide : pcl 3 0 = 19) (by decide))
        rw [← est33] at hP
        have hF : FM 4 st sl st33 sl11 := by rw [est33]; exact hF.up (by decide)
        have hT : TM B g m (tkx B g m (tkx B g m p)) st33 sl11 := by rw [est33]; exact hT.up (by omega)
        have hR : RT (uN c 0 (c 0 + 1)) (uM nm 0 (c 0) (tkc B g (tkx B g m p))) st33 sl11 := by rw [est33]; exact hR.inc (a := 0) (by decide) ⟨by omega, by omega, by omega⟩ hf13 (by rw [show bs 0 + c 0 = c 0 from Nat.zero_add _]; exact hN9)
        refine lv_iconst (v := 1) hx hb dX12_readPlace_64 (by decide) ?_
        exact W.zret (v := 1) hx hb hr rfl (fun t ht hW => ⟨⟨1, (st33, sl11), rfl, ⟨hG, hF, Or.inl (⟨(uN c 0 (c 0 + 1)), (uM nm 0 (c 0) (tkc B g (tkx B g m p))), (tkx B g m (tkx B g m p)), rfl, hR, hT, uN_sum (a := 0) (by decide) rfl, by unfold lPlace; rw [if_neg hf4, hf14, if_neg hf24], by show st33 0 10 = st 0 10; rw [est33, up2_ne (r := 3) (k := 0) (a := 0) (j := 10) _ _ (by omega), hk15, hkx5]⟩)⟩, mB.of ht hP⟩, hS.F ht⟩) hS.2.2 dX12_readPlace_65
    · refine lv_if_ne (tgt := 24) hx hb dX12_readPlace_19 (by decide) (fun cc => absurd (by decide) cc) (fun _ => ?_)
      refine lv_iconst (v := 0) hx hb dX12_readPlace_22 (by decide) ?_
      exact W.zret (v := 0) hx hb hr rfl (fun t ht hW => ⟨⟨0, (st10, sl11), rfl, ⟨hG, hF, Or.inr (⟨n16, n17, rfl, by show st10 0 10 = _; rw [hf18], by show st10 0 11 = _; rw [hf19], by omega, by unfold lPlace; rw [if_neg hf4, hf21]⟩)⟩, mB.of ht hP⟩, hS.F ht⟩) hS.2.2 dX12_readPlace_23
  · refine lv_if_eq (tgt := 22) hx hb dX12_readPlace_6 (by decide) (fun _ => ?_) (fun cc => absurd (by decide) cc)
    refine lv_iconst (v := 0) hx hb dX12_readPlace_22 (by decide) ?_
    exact W.zret (v := 0) hx hb hr rfl (fun t ht hW => ⟨⟨0, (st2, sl3), rfl, ⟨hG, hF, Or.inr (⟨4, (tka B g m p), rfl, by show st2 0 10 = _; rw [hf7], by show st2 0 11 = _; rw [hf8], by omega, by unfold lPlace; rw [if_pos hf6]⟩)⟩, mB.of ht hP⟩, hS.F ht⟩) hS.2.2 dX12_readPlace_23
set_option maxHeartbeats 4000000 in
set_option maxRecDepth 100000 in
theorem f_readPerson (l : Launch) (dC : Nat → ClassId) (dI : Nat → Nat → Nat) (ar : Nat → Nat) (cy : Nat → ClassId) (sz : Nat) (hN : MN ar) (st : Nat → Nat → Int32) (sl : Nat → Nat → Int64) (B : Nat → Nat) (g m : Nat) (p : Nat) (c : Nat → Nat) (nm : Nat → Nat → Nat) (hI : MI st) (hB : MBt B g m st) (hT : TM B g m p st sl) (hR : RT c nm st sl) (hw : tkw B g m p = 2) : Met l yX12_readPerson wsX12_readPerson ({ frames := 4, cells := 0, slots := 0, locals := 91 }) (va_Pc [.ref (ar 0)] (mPre dC dI ar cy sz st sl)) (va_Qi (fun (r : Int32) (x : MT) => MG [1, 2, 3, 6, 7, 8, 9, 10, 11, 12, 13, 14, 15, 20, 21, 22] st x.1 ∧ FM 4 st sl x.1 x.2 ∧ ((∃ c1 : Nat → Nat, ∃ n1 : Nat → Nat → Nat, ∃ q : Nat, r = 1 ∧ RT c1 n1 x.1 x.2 ∧ TM B g m q x.1 x.2 ∧ c1 0 + c1 1 + c1 2 + c1 3 + c1 4 = c 0 + c 1 + c 2 + c 3 + c 4 + 1 ∧ lPerson B g m p c nm = eEnd B g m q (fun p2 => (0, p2, c1, n1)) ∧ x.1 0 10 = st 0 10) ∨ (∃ f : Nat, ∃ a : Nat, r = 0 ∧ x.1 0 10 = nI f ∧ x.1 0 11 = nI a ∧ 1 ≤ f ∧ lPerson B g m p c nm = fl f a))) (mB dC dI ar cy) (MA ar sz)) 0 0 (MA ar sz) := by
  refine Met.ofW (cc := cX12_readPerson) (maxL := 2) (ret := (some .boolean)) (by decide) rfl ?_
  intro p9 e s m9 args below meth c9 s₁ B9 hml hv
  obtain ⟨rfl, hsz, hP, hK⟩ := hv
  have hx := B9.exec
  have hb := B9.bytes
  have hr := B9.returns
  have hts := atoms_spec (ws := wsX12_readPerson) B9.pre
  have hown : s.vm.findClass RX12 = some m9.cls := findClass_of_methodNamed B9.named
  subst hsz
  have hS : va_S (MA ar s.heap.size) s.heap s.heap [] := va_S.rf
  have hG : MG [1, 2, 3, 6, 7, 8, 9, 10, 11, 12, 13, 14, 15, 20, 21, 22] st st := MG.rf hI
  have hl := lv_entry ([.ref (ar 0)]) (n := 2) (Nat.le_of_ble_eq_true rfl)
  rw [lg_entry_eq]
  generalize (lg_sl ([.ref (ar 0)]) ++ List.replicate (2 - (lg_sl ([.ref (ar 0)])).length) Slot.unset).toArray = ls at hl ⊢
  have hl : lv_has ls 2 [(0, .ref (ar 0))] := hl
  clear hI
  have hB1 := hB.2.2.1
  have hB2 := hB.2.2.2.1
  have hF : FM 4 st sl st sl := FM.rf
  have hp9 := hT.2.2.2.2.2.2
  have hk1 := tkd_lt (B := B) (g := g) (m := m) (p := p)
  have hk2 := tkx_le (B := B) (g := g) (m := m) (p := p) hp9
  have hk3 := tka_le (B := B) (g := g) (m := m) (p := p) hp9 hB.2.2.1
  have hk4 := tkv_lt (p := p) hB hp9
  have hk5 := tkw_lt (B := B) (g := g) (m := m) (p := p)
  have hR9 := hR.2.2.2.2.2.1
  refine lv_aload_n hx hb dX12_readPerson_0 rfl (lv_at hl 0 rfl) ?_
  refine lv_iconst (v := 1) hx hb dX12_readPerson_1 (by decide) ?_
  refine lv_bipush (v := 8) hx hb dX12_readPerson_2 (by decide) ?_
  refine va_calli (va_runV (As := [.int 1, .int 8]) (rest := []) ⟨hx, hb, hml, hown, hts⟩ (f_readFirst1 l dC dI ar cy _ hN st sl B g m p c nm hG.1 (MBt.fr hB hF) hT hR (by have h9 := @tkw_d B g m p; omega)) (cwV 2 hts gX12_readPerson_X12_readFirst rfl rfl rfl (by decide +kernel) ⟨Nat.le_of_ble_eq_true rfl, Nat.le_of_ble_eq_true rfl⟩) ⟨fun a U g mk q => ⟨q.1, mPre.blind q.2⟩, va_recv hK hP (ci := 11) (q0 := 0) rfl rfl, fun U hU hW => ⟨rfl, mPre.of hP hK hU hW⟩⟩ rfl rfl hl.1 rfl (lv_room (Nat.le_of_ble_eq_true rfl)) dX12_readPerson_4 ⟨Nat.le_of_ble_eq_true rfl, Nat.le_of_ble_eq_true rfl⟩) hS (fun q _ h => MA.le hS.1 q h) (MA.le hS.1) (fun r1 x t H locs ht hvm hw hB9 _ _ hS => ?_)
  have hP := mB.at ht hB9
  clear hB9 ht hvm
  obtain ⟨st2, sl3⟩ := x
  obtain ⟨hG2, hF2, hw⟩ := hw
  dsimp only at hG2 hF2 hw
  have hP : va_P (dC, dI) vwCl (mw ar cy st2 sl3) _ := hP
  have hG : MG [1, 2, 3, 6, 7, 8, 9, 10, 11, 12, 13, 14, 15, 20, 21, 22] st st2 := hG.tr hG2 (by decide)
  have hFst2 : FM 2 st sl st2 sl3 := hF2
  have hF : FM 4 st sl st2 sl3 := hF.tr hFst2 (by omega) (by omega)
  clear hG2 hF2
  have hR : RT c nm st2 sl3 := hR.fr hFst2 (by omega)
  rcases hw with ⟨rfl, hf4, hT, hkx5⟩ | ⟨rfl, hf6, hf7, hf8⟩
  · have hp9 := hT.2.2.2.2.2.2
    have hk1 := tkd_lt (B := B) (g := g) (m := m) (p := (tkx B g m p))
    have hk2 := tkx_le (B := B) (g := g) (m := m) (p := (tkx B g m p)) hp9
    have hk3 := tka_le (B := B) (g := g) (m := m) (p := (tkx B g m p)) hp9 hB.2.2.1
    have hk4 := tkv_lt (p := (tkx B g m p)) hB hp9
    have hk5 := tkw_lt (B := B) (g := g) (m := m) (p := (tkx B g m p))
    refine lv_if_ne (tgt := 12) hx hb dX12_readPerson_7 (by decide) (fun _ => ?_) (fun cc => absurd cc (by decide))
    refine lv_aload_n hx hb dX12_readPerson_12 rfl (lv_at hl 0 rfl) ?_
    refine va_get (D := (dC, dI)) (ci := 11) (v := .ref (ar 3)) (C := RX12) (T := TX12) (N := 47) hx hb hts ii_X12_readPerson hown hK hP 0 rfl rfl 15 (by decide) (hts _ mm_X12_readPerson_1) (fun _ hh => hh) rfl dX12_readPerson_13 ?_
    refine lv_iconst (v := 1) hx hb dX12_readPerson_16 (by decide) ?_
    refine va_iald hx hb hK hP 3 2 rfl rfl (i := 1) (zz_in (by decide)) dX12_readPerson_17 ?_
    refine zz_top (v := (nI (c 1))) (by show st2 3 1 = _; rw [hR.2.1]) ?_
    refine lv_istore_n (lv' := [(1, .int (nI (c 1))), (0, .ref (ar 0))]) hx hb dX12_readPerson_18 rfl hl (by decide) rfl (fun ls hl => ?_)
    refine lv_aload_n hx hb dX12_readPerson_19 rfl (lv_at hl 1 rfl) ?_
    refine lv_iconst (v := 5) hx hb dX12_readPerson_20 (by decide) ?_
    refine lv_iload_n hx hb dX12_readPerson_21 rfl (lv_at hl 0 rfl) ?_
    refine lv_iadd hx hb dX12_readPerson_22 ?_
    refine zz_top (v := nI (5 + (c 1))) (nI_add 5 (c 1)) ?_
    refine va_calli (va_runV (As := [.int (nI (5 + (c 1)))]) (rest := []) ⟨hx, hb, hml, hown, hts⟩ (f_readNew l dC dI ar cy _ hN st2 sl3 (5 + (c 1)) B g m (tkx B g m p) c nm (by omega) hG.1 (MBt.fr hB hF) hT hR (fun a9 ha i hi e => hR.free (b := 1) (by decide) ⟨by omega, by omega⟩ a9 ha i hi (by rw [e]; rfl))) (cwV 1 hts gX12_readPerson_X12_readNew rfl rfl rfl (by decide +kernel) ⟨Nat.le_of_ble_eq_true rfl, Nat.le_of_ble_eq_true rfl⟩) ⟨fun a U g mk q => ⟨q.1, mPre.blind q.2⟩, va_recv hK hP (ci := 11) (q0 := 0) rfl rfl, fun U hU hW => ⟨rfl, mPre.of hP hK hU hW⟩⟩ rfl rfl hl.1 rfl (lv_room (Nat.le_of_ble_eq_true rfl)) dX12_readPerson_23 ⟨Nat.le_of_ble_eq_true rfl, Nat.le_of_ble_eq_true rfl⟩) hS (fun q _ h => MA.le hS.1 q h) (MA.le hS.1) (fun r9 x t H locs ht hvm hw hB9 _ _ hS => ?_)
    have hP := mB.at ht hB9
    clear hB9 ht hvm
    obtain ⟨st10, sl11⟩ := x
    obtain ⟨hG2, hF2, hw⟩ := hw
    dsimp only at hG2 hF2 hw
    have hP : va_P (dC, dI) vwCl (mw ar cy st10 sl11) _ := hP
    have hG : MG [1, 2, 3, 6, 7, 8, 9, 10, 11, 12, 13, 14, 15, 20, 21, 22] st st10 := hG.tr hG2 (by decide)
    have hFst10 : FM 3 st2 sl3 st10 sl11 := hF2
    have hF : FM 4 st sl st10 sl11 := hF.tr hFst10 (by omega) (by omega)
    clear hG2 hF2
    rcases hw with ⟨rfl, hf12, hN9, hf13, hR, hT, hf14, hk15⟩ | ⟨n16, n17, rfl, hf18, hf19, hf20, hf21⟩
    · have hp9 := hT.2.2.2.2.2.2
      have hk1 := tkd_lt (B := B) (g := g) (m := m) (p := (tkx B g m (tkx B g m p)))
      have hk2 := tkx_le (B := B) (g := g) (m := m) (p := (tkx B g m (tkx B g m p))) hp9
      have hk3 := tka_le (B := B) (g := g) (m := m) (p := (tkx B g m (tkx B g m p))) hp9 hB.2.2.1
      have hk4 := tkv_lt (p := (tkx B g m (tkx B g m p))) hB hp9
      have hk5 := tkw_lt (B := B) (g := g) (m := m) (p := (tkx B g m (tkx B g m p)))
      refine lv_if_eq (tgt := 51) hx hb dX12_readPerson_26 (by decide) (fun cc => absurd cc (by decide)) (fun _ => ?_)
      refine lv_aload_n hx hb dX12_readPerson_29 rfl (lv_at hl 1 rfl) ?_
      refine lv_bipush (v := 10) hx hb dX12_readPerson_30 (by decide) ?_
      refine lv_iload_n hx hb dX12_readPerson_32 rfl (lv_at hl 0 rfl) ?_
      refine lv_iadd hx hb dX12_readPerson_33 ?_
      refine zz_top (v := nI (10 + (c 1))) (nI_add 10 (c 1)) ?_
      refine lv_aload_n hx hb dX12_readPerson_34 rfl (lv_at hl 1 rfl) ?_
      refine lv_iconst (v := 0) hx hb dX12_readPerson_35 (by decide) ?_
      refine lv_aload_n hx hb dX12_readPerson_36 rfl (lv_at hl 1 rfl) ?_
      refine va_get (D := (dC, dI)) (ci := 11) (v := .ref (ar 3)) (C := RX12) (T := TX12) (N := 47) hx hb hts ii_X12_readPerson hown hK hP 0 rfl rfl 15 (by decide) (hts _ mm_X12_readPerson_1) (fun _ hh => hh) rfl dX12_readPerson_37 ?_
      refine lv_iconst (v := 0) hx hb dX12_readPerson_40 (by decide) ?_
      refine va_iald hx hb hK hP 3 2 rfl rfl (i := 0) (zz_in (by decide)) dX12_readPerson_41 ?_
      refine zz_top (v := (nI (c 0))) (by show st10 3 0 = _; rw [hR.1]) ?_
      refine va_calli (va_runV (As := [.int 0, .int (nI (c 0))]) (rest := [.int (nI (10 + (c 1))), .ref (ar 0)]) ⟨hx, hb, hml, hown, hts⟩ (f_readOne0 l dC dI ar cy _ hN st10 sl11 (c 0) B g m (tkx B g m (tkx B g m p)) c nm (by omega) hG.1 (MBt.fr hB hF) hT hR (by omega)) (cwV 2 hts gX12_readPerson_X12_readOne rfl rfl rfl (by decide +kernel) ⟨Nat.le_of_ble_eq_true rfl, Nat.le_of_ble_eq_true rfl⟩) ⟨fun a U g mk q => ⟨q.1, mPre.blind q.2⟩, va_recv hK hP (ci := 11) (q0 := 0) rfl rfl, fun U hU hW => ⟨rfl, mPre.of hP hK hU hW⟩⟩ rfl rfl hl.1 rfl (lv_room (Nat.le_of_ble_eq_true rfl)) dX12_readPerson_42 ⟨Nat.le_of_ble_eq_true rfl, Nat.le_of_ble_eq_true rfl⟩) hS (fun q _ h => MA.le hS.1 q h) (MA.le hS.1) (fun r22 x t H locs ht hvm hw hB9 _ _ hS => ?_)
      have hP := mB.at ht hB9
      clear hB9 ht hvm
      obtain ⟨st23, sl24⟩ := x
      obtain ⟨hG2, hF2, hw⟩ := hw
      dsimp only at hG2 hF2 hw
      have hP : va_P (dC, dI) vwCl (mw ar cy st23 sl24) _ := hP
      have hG : MG [1, 2, 3, 6, 7, 8, 9, 10, 11, 12, 13, 14, 15, 20, 21, 22] st st23 := hG.tr hG2 (by decide)
      have hFst23 : FM 2 st10 sl11 st23 sl24 := hF2
      have hF : FM 4 st sl st23 sl24 := hF.tr hFst23 (by omega) (by omega)
      clear hG2 hF2
      have hR : RT c nm st23 sl24 := hR.fr hFst23 (by omega)
      have hN9 : sl24 8 (5 + (c 1)) = lN (c7 7 (tkc B g (tkx B g m p))) := by rw [(hFst23 8 _ (dm_8 (by omega) _)).2]; exact hN9
      rcases hw with ⟨n25, rfl, hf26, hf27, hT, hf28, hk29⟩ | ⟨n30, n31, rfl, hf32, hf33, hf34, hf35⟩
      · have hp9 := hT.2.2.2.2.2.2
        have hk1 := tkd_lt (B := B) (g := g) (m := m) (p := (tkx B g m (tkx B g m (tkx B g m p))))
        have hk2 := tkx_le (B := B) (g := g) (m := m) (p := (tkx B g m (tkx B g m (tkx B g m p)))) hp9
        have hk3 := tka_le (B := B) (g := g) (m := m) (p := (tkx B g m (tkx B g m (tkx B g m p)))) hp9 hB.2.2.1
        have hk4 := tkv_lt (p := (tkx B g m (tkx B g m (tkx B g m p)))) hB hp9
        have hk5 := tkw_lt (B := B) (g := g) (m := m) (p := (tkx B g m (tkx B g m (tkx B g m p))))
        refine va_calli (va_runV (As := [.int (nI (10 + (c 1))), .int 1]) (rest := []) ⟨hx, hb, hml, hown, hts⟩ (f_put10 l dC dI ar cy _ hN st23 sl24 (10 + (c 1)) B g m (tkx B g m (tkx B g m (tkx B g m p))) c nm n25 (by omega) (by omega) hG.1 (MBt.fr hB hF) hT hR (by rw [hf27]) (by omega)) (cwV 2 hts gX12_readPerson_X12_put rfl rfl rfl (by decide +kernel) ⟨Nat.le_of_ble_eq_true rfl, Nat.le_of_ble_eq_true rfl⟩) ⟨fun a U g mk q => ⟨q.1, mPre.blind q.2⟩, va_recv hK hP (ci := 11) (q0 := 0) rfl rfl, fun U hU hW => ⟨rfl, mPre.of hP hK hU hW⟩⟩ rfl rfl hl.1 rfl (lv_room (Nat.le_of_ble_eq_true rfl)) dX12_readPerson_45 ⟨Nat.le_of_ble_eq_true rfl, Nat.le_of_ble_eq_true rfl⟩) hS (fun q _ h => MA.le hS.1 q h) (MA.le hS.1) (fun r36 x t H locs ht hvm hw hB9 _ _ hS => ?_)
        have hP := mB.at ht hB9
        clear hB9 ht hvm
        obtain ⟨st37, sl38⟩ := x
        obtain ⟨hG2, hF2, hw⟩ := hw
        dsimp only at hG2 hF2 hw
        have hP : va_P (dC, dI) vwCl (mw ar cy st37 sl38) _ := hP
        have hG : MG [1, 2, 3, 6, 7, 8, 9, 10, 11, 12, 13, 14, 15, 20, 21, 22] st st37 := hG.tr hG2 (by decide)
        have hFst37 : FM 4 st23 sl24 st37 sl38 := hF2
        have hF : FM 4 st sl st37 sl38 := hF.tr hFst37 (by omega) (by omega)
        clear hG2 hF2
        obtain ⟨rfl, hf39, hf40, hR, hT, hk41⟩ := hw
        have hN9 : sl38 8 (5 + (c 1)) = lN (c7 7 (tkc B g (tkx B g m p))) := by rw [hf39]; exact hN9
        have hp9 := hT.2.2.2.2.2.2
        have hk1 := tkd_lt (B := B) (g := g) (m := m) (p := (tkx B g m (tkx B g m (tkx B g m p))))
        have hk2 := tkx_le (B := B) (g := g) (m := m) (p := (tkx B g m (tkx B g m (tkx B g m p)))) hp9
        have hk3 := tka_le (B := B) (g := g) (m := m) (p := (tkx B g m (tkx B g m (tkx B g m p)))) hp9 hB.2.2.1
        have hk4 := tkv_lt (p := (tkx B g m (tkx B g m (tkx B g m p)))) hB hp9
        have hk5 := tkw_lt (B := B) (g := g) (m := m) (p := (tkx B g m (tkx B g m (tkx B g m p))))
        refine lv_if_ne (tgt := 53) hx hb dX12_readPerson_48 (by decide) (fun _ => ?_) (fun cc => absurd cc (by decide))
        refine lv_aload_n hx hb dX12_readPerson_53 rfl (lv_at hl 1 rfl) ?_
        refine lv_bipush (v := 18) hx hb dX12_readPerson_54 (by decide) ?_
        refine lv_iload_n hx hb dX12_readPerson_56 rfl (lv_at hl 0 rfl) ?_
        refine lv_iadd hx hb dX12_readPerson_57 ?_
        refine zz_top (v := nI (18 + (c 1))) (nI_add 18 (c 1)) ?_
        refine lv_aload_n hx hb dX12_readPerson_58 rfl (lv_at hl 1 rfl) ?_
        refine lv_iconst (v := 0) hx hb dX12_readPerson_59 (by decide) ?_
        refine lv_bipush (v := 23) hx hb dX12_readPerson_60 (by decide) ?_
        refine va_calli (va_runV (As := [.int 0, .int 23]) (rest := [.int (nI (18 + (c 1))), .ref (ar 0)]) ⟨hx, hb, hml, hown, hts⟩ (f_readNumber l dC dI ar cy _ hN st37 sl38 0 23 B g m (tkx B g m (tkx B g m (tkx B g m p))) (by omega) (by omega) hG.1 (MBt.fr hB hF) hT) (cwV 2 hts gX12_readPerson_X12_readNumber rfl rfl rfl (by decide +kernel) ⟨Nat.le_of_ble_eq_true rfl, Nat.le_of_ble_eq_true rfl⟩) ⟨fun a U g mk q => ⟨q.1, mPre.blind q.2⟩, va_recv hK hP (ci := 11) (q0 := 0) rfl rfl, fun U hU hW => ⟨rfl, mPre.of hP hK hU hW⟩⟩ rfl rfl hl.1 rfl (lv_room (Nat.le_of_ble_eq_true rfl)) dX12_readPerson_62 ⟨Nat.le_of_ble_eq_true rfl, Nat.le_of_ble_eq_true rfl⟩) hS (fun q _ h => MA.le hS.1 q h) (MA.le hS.1) (fun r42 x t H locs ht hvm hw hB9 _ _ hS => ?_)
        have hP := mB.at ht hB9
        clear hB9 ht hvm
        obtain ⟨st43, sl44⟩ := x
        obtain ⟨hG2, hF2, hw⟩ := hw
        dsimp only at hG2 hF2 hw
        have hP : va_P (dC, dI) vwCl (mw ar cy st43 sl44) _ := hP
        have hG : MG [1, 2, 3, 6, 7, 8, 9, 10, 11, 12, 13, 14, 15, 20, 21, 22] st st43 := hG.tr hG2 (by decide)
        have hFst43 : FM 2 st37 sl38 st43 sl44 := hF2
        have hF : FM 4 st sl st43 sl44 := hF.tr hFst43 (by omega) (by omega)
        clear hG2 hF2
        have hR : RT c nm st43 sl44 := hR.fr hFst43 (by omega)
        have hN9 : sl44 8 (5 + (c 1)) = lN (c7 7 (tkc B g (tkx B g m p))) := by rw [(hFst43 8 _ (dm_8 (by omega) _)).2]; exact hN9
        rcases hw with ⟨rfl, hf45, hf46, hf47, hf48, hT, hf49, hk50⟩ | ⟨n51, n52, rfl, hf53, hf54, hf55, hf56⟩
        · have hp9 := hT.2.2.2.2.2.2
          have hk1 := tkd_lt (B := B) (g := g) (m := m) (p := (tkx B g m (tkx B g m (tkx B g m (tkx B g m p)))))
          have hk2 := tkx_le (B := B) (g := g) (m := m) (p := (tkx B g m (tkx B g m (tkx B g m (tkx B g m p))))) hp9
          have hk3 := tka_le (B := B) (g := g) (m := m) (p := (tkx B g m (tkx B g m (tkx B g m (tkx B g m p))))) hp9 hB.2.2.1
          have hk4 := tkv_lt (p := (tkx B g m (tkx B g m (tkx B g m (tkx B g m p))))) hB hp9
          have hk5 := tkw_lt (B := B) (g := g) (m := m) (p := (tkx B g m (tkx B g m (tkx B g m (tkx B g m p)))))
          refine va_calli (va_runV (As := [.int (nI (18 + (c 1))), .int 1]) (rest := []) ⟨hx, hb, hml, hown, hts⟩ (f_put18 l dC dI ar cy _ hN st43 sl44 (18 + (c 1)) B g m (tkx B g m (tkx B g m (tkx B g m (tkx B g m p)))) c nm (tkv B g (tkx B g m (tkx B g m (tkx B g m p)))) (by omega) (by omega) hG.1 (MBt.fr hB hF) hT hR (by rw [hf48]) (by omega)) (cwV 2 hts gX12_readPerson_X12_put rfl rfl rfl (by decide +kernel) ⟨Nat.le_of_ble_eq_true rfl, Nat.le_of_ble_eq_true rfl⟩) ⟨fun a U g mk q => ⟨q.1, mPre.blind q.2⟩, va_recv hK hP (ci := 11) (q0 := 0) rfl rfl, fun U hU hW => ⟨rfl, mPre.of hP hK hU hW⟩⟩ rfl rfl hl.1 rfl (lv_room (Nat.le_of_ble_eq_true rfl)) dX12_readPerson_65 ⟨Nat.le_of_ble_eq_true rfl, Nat.le_of_ble_eq_true rfl⟩) hS (fun q _ h => MA.le hS.1 q h) (MA.le hS.1) (fun r57 x t H locs ht hvm hw hB9 _ _ hS => ?_)
          have hP := mB.at ht hB9
          clear hB9 ht hvm
          obtain ⟨st58, sl59⟩ := x
          obtain ⟨hG2, hF2, hw⟩ := hw
          dsimp only at hG2 hF2 hw
          have hP : va_P (dC, dI) vwCl (mw ar cy st58 sl59) _ := hP
          have hG : MG [1, 2, 3, 6, 7, 8, 9, 10, 11, 12, 13, 14, 15, 20, 21, 22] st st58 := hG.tr hG2 (by decide)
          have hFst58 : FM 4 st43 sl44 st58 sl59 := hF2
          have hF : FM 4 st sl st58 sl59 := hF.tr hFst58 (by omega) (by omega)
          clear hG2 hF2
          obtain ⟨rfl, hf60, hf61, hR, hT, hk62⟩ := hw
          have hN9 : sl59 8 (5 + (c 1)) = lN (c7 7 (tkc B g (tkx B g m p))) := by rw [hf60]; exact hN9
          have hp9 := hT.2.2.2.2.2.2
          have hk1 := tkd_lt (B := B) (g := g) (m := m) (p := (tkx B g m (tkx B g m (tkx B g m (tkx B g m p)))))
          have hk2 := tkx_le (B := B) (g := g) (m := m) (p := (tkx B g m (tkx B g m (tkx B g m (tkx B g m p))))) hp9
          have hk3 := tka_le (B := B) (g := g) (m := m) (p := (tkx B g m (tkx B g m (tkx B g m (tkx B g m p))))) hp9 hB.2.2.1
          have hk4 := tkv_lt (p := (tkx B g m (tkx B g m (tkx B g m (tkx B g m p))))) hB hp9
          have hk5 := tkw_lt (B := B) (g := g) (m := m) (p := (tkx B g m (tkx B g m (tkx B g m (tkx B g m p)))))
          refine lv_if_eq (tgt := 115) hx hb dX12_readPerson_68 (by decide) (fun cc => absurd cc (by decide)) (fun _ => ?_)
          refine lv_aload_n hx hb dX12_readPerson_71 rfl (lv_at hl 1 rfl) ?_
          refine lv_bipush (v := 26) hx hb dX12_readPerson_72 (by decide) ?_
          refine lv_iload_n hx hb dX12_readPerson_74 rfl (lv_at hl 0 rfl) ?_
          refine lv_iadd hx hb dX12_readPerson_75 ?_
          refine zz_top (v := nI (26 + (c 1))) (nI_add 26 (c 1)) ?_
          refine lv_aload_n hx hb dX12_readPerson_76 rfl (lv_at hl 1 rfl) ?_
          refine lv_aload_n hx hb dX12_readPerson_77 rfl (lv_at hl 1 rfl) ?_
          refine va_get (D := (dC, dI)) (ci := 11) (v := .ref (ar 3)) (C := RX12) (T := TX12) (N := 47) hx hb hts ii_X12_readPerson hown hK hP 0 rfl rfl 15 (by decide) (hts _ mm_X12_readPerson_1) (fun _ hh => hh) rfl dX12_readPerson_78 ?_
          refine lv_bipush (v := 18) hx hb dX12_readPerson_81 (by decide) ?_
          refine lv_iload_n hx hb dX12_readPerson_83 rfl (lv_at hl 0 rfl) ?_
          refine lv_iadd hx hb dX12_readPerson_84 ?_
          refine zz_top (v := nI (18 + (c 1))) (nI_add 18 (c 1)) ?_
          refine va_iald hx hb hK hP 3 2 rfl rfl (i := (nI (18 + (c 1)))) (vp_in_nI (by omega) (by decide)) dX12_readPerson_85 ?_
          refine zz_top (v := (nI (tkv B g (tkx B g m (tkx B g m (tkx B g m p)))))) (by rw [nI_clamp (by omega)]; show st58 3 (18 + (c 1)) = _; rw [hf61]) ?_
          refine lv_bipush (v := 23) hx hb dX12_readPerson_86 (by decide) ?_
          refine va_calli (va_runV (As := [.int (nI (tkv B g (tkx B g m (tkx B g m (tkx B g m p))))), .int 23]) (rest := [.int (nI (26 + (c 1))), .ref (ar 0)]) ⟨hx, hb, hml, hown, hts⟩ (f_readNumber l dC dI ar cy _ hN st58 sl59 (tkv B g (tkx B g m (tkx B g m (tkx B g m p)))) 23 B g m (tkx B g m (tkx B g m (tkx B g m (tkx B g m p)))) (by omega) (by omega) hG.1 (MBt.fr hB hF) hT) (cwV 2 hts gX12_readPerson_X12_readNumber rfl rfl rfl (by decide +kernel) ⟨Nat.le_of_ble_eq_true rfl, Nat.le_of_ble_eq_true rfl⟩) ⟨fun a U g mk q => ⟨q.1, mPre.blind q.2⟩, va_recv hK hP (ci := 11) (q0 := 0) rfl rfl, fun U hU hW => ⟨rfl, mPre.of hP hK hU hW⟩⟩ rfl rfl hl.1 rfl (lv_room (Nat.le_of_ble_eq_true rfl)) dX12_readPerson_88 ⟨Nat.le_of_ble_eq_true rfl, Nat.le_of_ble_eq_true rfl⟩) hS (fun q _ h => MA.le hS.1 q h) (MA.le hS.1) (fun r63 x t H locs ht hvm hw hB9 _ _ hS => ?_)
          have hP := mB.at ht hB9
          clear hB9 ht hvm
          obtain ⟨st64, sl65⟩ := x
          obtain ⟨hG2, hF2, hw⟩ := hw
          dsimp only at hG2 hF2 hw
          have hP : va_P (dC, dI) vwCl (mw ar cy st64 sl65) _ := hP
          have hG : MG [1, 2, 3, 6, 7, 8, 9, 10, 11, 12, 13, 14, 15, 20, 21, 22] st st64 := hG.tr hG2 (by decide)
          have hFst64 : FM 2 st58 sl59 st64 sl65 := hF2
          have hF : FM 4 st sl st64 sl65 := hF.tr hFst64 (by omega) (by omega)
          clear hG2 hF2
          have hR : RT c nm st64 sl65 := hR.fr hFst64 (by omega)
          have hN9 : sl65 8 (5 + (c 1)) = lN (c7 7 (tkc B g (tkx B g m p))) := by rw [(hFst64 8 _ (dm_8 (by omega) _)).2]; exact hN9
          rcases hw with ⟨rfl, hf66, hf67, hf68, hf69, hT, hf70, hk71⟩ | ⟨n72, n73, rfl, hf74, hf75, hf76, hf77⟩
          · have hp9 := hT.2.2.2.2.2.2
            have hk1 := tkd_lt (B := B) (g := g) (m := m) (p := (tkx B g m (tkx B g m (tkx B g m (tkx B g m (tkx B g m p))))))
            have hk2 := tkx_le (B := B) (g := g) (m := m) (p := (tkx B g m (tkx B g m (tkx B g m (tkx B g m (tkx B g m p)))))) hp9
            have hk3 := tka_le (B := B) (g := g) (m := m) (p := (tkx B g m (tkx B g m (tkx B g m (tkx B g m (tkx B g m p)))))) hp9 hB.2.2.1
            have hk4 := tkv_lt (p := (tkx B g m (tkx B g m (tkx B g m (tkx B g m (tkx B g m p)))))) hB hp9
            have hk5 := tkw_lt (B := B) (g := g) (m := m) (p := (tkx B g m (tkx B g m (tkx B g m (tkx B g m (tkx B g m p))))))
            refine va_calli (va_runV (As := [.int (nI (26 + (c 1))), .int 1]) (rest := []) ⟨hx, hb, hml, hown, hts⟩ (f_put18 l dC dI ar cy _ hN st64 sl65 (26 + (c 1)) B g m (tkx B g m (tkx B g m (tkx B g m (tkx B g m (tkx B g m p))))) c nm (tkv B g (tkx B g m (tkx B g m (tkx B g m (tkx B g m p))))) (by omega) (by omega) hG.1 (MBt.fr hB hF) hT hR (by rw [hf69]) (by omega)) (cwV 2 hts gX12_readPerson_X12_put rfl rfl rfl (by decide +kernel) ⟨Nat.le_of_ble_eq_true rfl, Nat.le_of_ble_eq_true rfl⟩) ⟨fun a U g mk q => ⟨q.1, mPre.blind q.2⟩, va_recv hK hP (ci := 11) (q0 := 0) rfl rfl, fun U hU hW => ⟨rfl, mPre.of hP hK hU hW⟩⟩ rfl rfl hl.1 rfl (lv_room (Nat.le_of_ble_eq_true rfl)) dX12_readPerson_91 ⟨Nat.le_of_ble_eq_true rfl, Nat.le_of_ble_eq_true rfl⟩) hS (fun q _ h => MA.le hS.1 q h) (MA.le hS.1) (fun r78 x t H locs ht hvm hw hB9 _ _ hS => ?_)
            have hP := mB.at ht hB9
            clear hB9 ht hvm
            obtain ⟨st79, sl80⟩ := x
            obtain ⟨hG2, hF2, hw⟩ := hw
            dsimp only at hG2 hF2 hw
            have hP : va_P (dC, dI) vwCl (mw ar cy st79 sl80) _ := hP
            have hG : MG [1, 2, 3, 6, 7, 8, 9, 10, 11, 12, 13, 14, 15, 20, 21, 22] st st79 := hG.tr hG2 (by decide)
            have hFst79 : FM 4 st64 sl65 st79 sl80 := hF2
            have hF : FM 4 st sl st79 sl80 := hF.tr hFst79 (by omega) (by omega)
            clear hG2 hF2
            obtain ⟨rfl, hf81, hf82, hR, hT, hk83⟩ := hw
            have hN9 : sl80 8 (5 + (c 1)) = lN (c7 7 (tkc B g (tkx B g m p))) := by rw [hf81]; exact hN9
            have hp9 := hT.2.2.2.2.2.2
            have hk1 := tkd_lt (B := B) (g := g) (m := m) (p := (tkx B g m (tkx B g m (tkx B g m (tkx B g m (tkx B g m p))))))
            have hk2 := tkx_le (B := B) (g := g) (m := m) (p := (tkx B g m (tkx B g m (tkx B g m (tkx B g m (tkx B g m p)))))) hp9
            have hk3 := tka_le (B := B) (g := g) (m := m) (p := (tkx B g m (tkx B g m (tkx B g m (tkx B g m (tkx B g m p)))))) hp9 hB.2.2.1
            have hk4 := tkv_lt (p := (tkx B g m (tkx B g m (tkx B g m (tkx B g m (tkx B g m p)))))) hB hp9
            have hk5 := tkw_lt (B := B) (g := g) (m := m) (p := (tkx B g m (tkx B g m (tkx B g m (tkx B g m (tkx B g m p))))))
            refine lv_if_eq (tgt := 115) hx hb dX12_readPerson_94 (by decide) (fun cc => absurd cc (by decide)) (fun _ => ?_)
            refine lv_aload_n hx hb dX12_readPerson_97 rfl (lv_at hl 1 rfl) ?_
            refine lv_bipush (v := 34) hx hb dX12_readPerson_98 (by decide) ?_
            refine lv_iload_n hx hb dX12_readPerson_100 rfl (lv_at hl 0 rfl) ?_
            refine lv_iadd hx hb dX12_readPerson_101 ?_
            refine zz_top (v := nI (34 + (c 1))) (nI_add 34 (c 1)) ?_
            refine lv_aload_n hx hb dX12_readPerson_102 rfl (lv_at hl 1 rfl) ?_
            refine lv_iconst (v := 0) hx hb dX12_readPerson_103 (by decide) ?_
            refine lv_bipush (v := 30) hx hb dX12_readPerson_104 (by decide) ?_
            refine va_calli (va_runV (As := [.int 0, .int 30]) (rest := [.int (nI (34 + (c 1))), .ref (ar 0)]) ⟨hx, hb, hml, hown, hts⟩ (f_readNumber l dC dI ar cy _ hN st79 sl80 0 30 B g m (tkx B g m (tkx B g m (tkx B g m (tkx B g m (tkx B g m p))))) (by omega) (by omega) hG.1 (MBt.fr hB hF) hT) (cwV 2 hts gX12_readPerson_X12_readNumber rfl rfl rfl (by decide +kernel) ⟨Nat.le_of_ble_eq_true rfl, Nat.le_of_ble_eq_true rfl⟩) ⟨fun a U g mk q => ⟨q.1, mPre.blind q.2⟩, va_recv hK hP (ci := 11) (q0 := 0) rfl rfl, fun U hU hW => ⟨rfl, mPre.of hP hK hU hW⟩⟩ rfl rfl hl.1 rfl (lv_room (Nat.le_of_ble_eq_true rfl)) dX12_readPerson_106 ⟨Nat.le_of_ble_eq_true rfl, Nat.le_of_ble_eq_true rfl⟩) hS (fun q _ h => MA.le hS.1 q h) (MA.le hS.1) (fun r84 x t H locs ht hvm hw hB9 _ _ hS => ?_)
            have hP := mB.at ht hB9
            clear hB9 ht hvm
            obtain ⟨st85, sl86⟩ := x
            obtain ⟨hG2, hF2, hw⟩ := hw
            dsimp only at hG2 hF2 hw
            have hP : va_P (dC, dI) vwCl (mw ar cy st85 sl86) _ := hP
            have hG : MG [1, 2, 3, 6, 7, 8, 9, 10, 11, 12, 13, 14, 15, 20, 21, 22] st st85 := hG.tr hG2 (by decide)
            have hFst85 : FM 2 st79 sl80 st85 sl86 := hF2
            have hF : FM 4 st sl st85 sl86 := hF.tr hFst85 (by omega) (by omega)
            clear hG2 hF2
            have hR : RT c nm st85 sl86 := hR.fr hFst85 (by omega)
            have hN9 : sl86 8 (5 + (c 1)) = lN (c7 7 (tkc B g (tkx B g m p))) := by rw [(hFst85 8 _ (dm_8 (by omega) _)).2]; exact hN9
            rcases hw with ⟨rfl, hf87, hf88, hf89, hf90, hT, hf91, hk92⟩ | ⟨n93, n94, rfl, hf95, hf96, hf97, hf98⟩
            · have hp9 := hT.2.2.2.2.2.2
              have hk1 := tkd_lt (B := B) (g := g) (m := m) (p := (tkx B g m (tkx B g m (tkx B g m (tkx B g m (tkx B g m (tkx B g m p)))))))
              have hk2 := tkx_le (B := B) (g := g) (m := m) (p := (tkx B g m (tkx B g m (tkx B g m (tkx B g m (tkx B g m (tkx B g m p))))))) hp9
              have hk3 := tka_le (B := B) (g := g) (m := m) (p := (tkx B g m (tkx B g m (tkx B g m (tkx B g m (tkx B g m (tkx B g m p))))))) hp9 hB.2.2.1
              have hk4 := tkv_lt (p := (tkx B g m (tkx B g m (tkx B g m (tkx B g m (tkx B g m (tkx B g m p))))))) hB hp9
              have hk5 := tkw_lt (B := B) (g := g) (m := m) (p := (tkx B g m (tkx B g m (tkx B g m (tkx B g m (tkx B g m (tkx B g m p)))))))
              refine va_calli (va_runV (As := [.int (nI (34 + (c 1))), .int 1]) (rest := []) ⟨hx, hb, hml, hown, hts⟩ (f_put18 l dC dI ar cy _ hN st85 sl86 (34 + (c 1)) B g m (tkx B g m (tkx B g m (tkx B g m (tkx B g m (tkx B g m (tkx B g m p)))))) c nm (tkv B g (tkx B g m (tkx B g m (tkx B g m (tkx B g m (tkx B g m p)))))) (by omega) (by omega) hG.1 (MBt.fr hB hF) hT hR (by rw [hf90]) (by omega)) (cwV 2 hts gX12_readPerson_X12_put rfl rfl rfl (by decide +kernel) ⟨Nat.le_of_ble_eq_true rfl, Nat.le_of_ble_eq_true rfl⟩) ⟨fun a U g mk q => ⟨q.1, mPre.blind q.2⟩, va_recv hK hP (ci := 11) (q0 := 0) rfl rfl, fun U hU hW => ⟨rfl, mPre.of hP hK hU hW⟩⟩ rfl rfl hl.1 rfl (lv_room (Nat.le_of_ble_eq_true rfl)) dX12_readPerson_109 ⟨Nat.le_of_ble_eq_true rfl, Nat.le_of_ble_eq_true rfl⟩) hS (fun q _ h => MA.le hS.1 q h) (MA.le hS.1) (fun r99 x t H locs ht hvm hw hB9 _ _ hS => ?_)
              have hP := mB.at ht hB9
              clear hB9 ht hvm
              obtain ⟨st100, sl101⟩ := x
              obtain ⟨hG2, hF2, hw⟩ := hw
              dsimp only at hG2 hF2 hw
              have hP : va_P (dC, dI) vwCl (mw ar cy st100 sl101) _ := hP
              have hG : MG [1, 2, 3, 6, 7, 8, 9, 10, 11, 12, 13, 14, 15, 20, 21, 22] st st100 := hG.tr hG2 (by decide)
              have hFst100 : FM 4 st85 sl86 st100 sl101 := hF2
              have hF : FM 4 st sl st100 sl101 := hF.tr hFst100 (by omega) (by omega)
              clear hG2 hF2
              obtain ⟨rfl, hf102, hf103, hR, hT, hk104⟩ := hw
              have hN9 : sl101 8 (5 + (c 1)) = lN (c7 7 (tkc B g (tkx B g m p))) := by rw [hf102]; exact hN9
              have hp9 := hT.2.2.2.2.2.2
              have hk1 := tkd_lt (B := B) (g := g) (m := m) (p := (tkx B g m (tkx B g m (tkx B g m (tkx B g m (tkx B g m (tkx B g m p)))))))
              have hk2 := tkx_le (B := B) (g := g) (m := m) (p := (tkx B g m (tkx B g m (tkx B g m (tkx B g m (tkx B g m (tkx B g m p))))))) hp9
              have hk3 := tka_le (B := B) (g := g) (m := m) (p := (tkx B g m (tkx B g m (tkx B g m (tkx B g m (tkx B g m (tkx B g m p))))))) hp9 hB.2.2.1
              have hk4 := tkv_lt (p := (tkx B g m (tkx B g m (tkx B g m (tkx B g m (tkx B g m (tkx B g m p))))))) hB hp9
              have hk5 := tkw_lt (B := B) (g := g) (m := m) (p := (tkx B g m (tkx B g m (tkx B g m (tkx B g m (tkx B g m (tkx B g m p)))))))
              refine lv_if_ne (tgt := 117) hx hb dX12_readPerson_112 (by decide) (fun _ => ?_) (fun cc => absurd cc (by decide))
              refine lv_aload_n hx hb dX12_readPerson_117 rfl (lv_at hl 1 rfl) ?_
              refine va_get (D := (dC, dI)) (ci := 11) (v := .ref (ar 3)) (C := RX12) (T := TX12) (N := 47) hx hb hts ii_X12_readPerson hown hK hP 0 rfl rfl 15 (by decide) (hts _ mm_X12_readPerson_1) (fun _ hh => hh) rfl dX12_readPerson_118 ?_
              refine lv_iconst (v := 1) hx hb dX12_readPerson_121 (by decide) ?_
              refine lv_dup2_11 hx hb dX12_readPerson_122 rfl rfl ?_
              refine va_iald hx hb hK hP 3 2 rfl rfl (i := 1) (zz_in (by decide)) dX12_readPerson_123 ?_
              refine zz_top (v := (nI (c 1))) (by show st100 3 1 = _; rw [hR.2.1]) ?_
              refine lv_iconst (v := 1) hx hb dX12_readPerson_124 (by decide) ?_
              refine lv_iadd hx hb dX12_readPerson_125 ?_
              refine zz_top (v := nI ((c 1) + 1)) (nI_add (c 1) 1) ?_
              refine va_iast hx hb hK hP (mD hN _ _ _ _) hS 3 2 rfl rfl (i := 1) (zz_in (by decide)) dX12_readPerson_126 (fun H locs hP _ hS => ?_)
              have hP : va_P (dC, dI) vwCl (mw ar cy (up2 st100 3 1 (nI ((c 1) + 1))) sl101) H := hP
              obtain ⟨st105, est105⟩ : ∃ y, y = up2 st100 3 1 (nI ((c 1) + 1)) := ⟨_, rfl⟩
              have hG : MG [1, 2, 3, 6, 7, 8, 9, 10, 11, 12, 13, 14, 15, 20, 21, 22] st st105 := by rw [est105]; exact hG.up (rn (n := ((c 1) + 1)) (by decide : mr 3 1 = 9) (by omega)) (pn (by decide : pcl 3 1 = 19) (by decide))
              rw [← est105] at hP
              have hF : FM 4 st sl st105 sl101 := by rw [est105]; exact hF.up (by decide)
              have hT : TM B g m (tkx B g m (tkx B g m (tkx B g m (tkx B g m (tkx B g m (tkx B g m p)))))) st105 sl101 := by rw [est105]; exact hT.up (by omega)
              have hR : RT (uN c 1 (c 1 + 1)) (uM nm 1 (c 1) (tkc B g (tkx B g m p))) st105 sl101 := by rw [est105]; exact hR.inc (a := 1) (by decide) ⟨by omega, by omega, by omega⟩ hf13 hN9
              refine lv_iconst (v := 1) hx hb dX12_readPerson_127 (by decide) ?_
              exact W.zret (v := 1) hx hb hr rfl (fun t ht hW => ⟨⟨1, (st105, sl101), rfl, ⟨hG, hF, Or.inl (⟨(uN c 1 (c 1 + 1)), (uM nm 1 (c 1) (tkc B g (tkx B g m p))), (tkx B g m (tkx B g m (tkx B g m (tkx B g m (tkx B g m (tkx B g m p)))))), rfl, hR, hT, uN_sum (a := 1) (by decide) rfl, by unfold lPerson; rw [if_neg hf4, hf14, hf28, hf49, hf70, hf91], by show st105 0 10 = st 0 10; rw [est105, up2_ne (r := 3) (k := 1) (a := 0) (j := 10) _ _ (by omega), hk104, hk92, hk83, hk71, hk62, hk50, hk41, hk29, hk15, hkx5]⟩)⟩, mB.of ht hP⟩, hS.F ht⟩) hS.2.2 dX12_readPerson_128
            · refine va_calli (va_runV (As := [.int (nI (34 + (c 1))), .int 0]) (rest := []) ⟨hx, hb, hml, hown, hts⟩ (f_putF l dC dI ar cy _ hN st85 sl86 (34 + (c 1)) (by omega) hG.1 ) (cwV 2 hts gX12_readPerson_X12_put rfl rfl rfl (by decide +kernel) ⟨Nat.le_of_ble_eq_true rfl, Nat.le_of_ble_eq_true rfl⟩) ⟨fun a U g mk q => ⟨q.1, mPre.blind q.2⟩, va_recv hK hP (ci := 11) (q0 := 0) rfl rfl, fun U hU hW => ⟨rfl, mPre.of hP hK hU hW⟩⟩ rfl rfl hl.1 rfl (lv_room (Nat.le_of_ble_eq_true rfl)) dX12_readPerson_109 ⟨Nat.le_of_ble_eq_true rfl, Nat.le_of_ble_eq_true rfl⟩) hS (fun q _ h => MA.le hS.1 q h) (MA.le hS.1) (fun r106 x t H locs ht hvm hw hB9 _ _ hS => ?_)
              have hP := mB.at ht hB9
              clear hB9 ht hvm
              obtain ⟨rfl, hw⟩ := hw
              have hP : va_P (dC, dI) vwCl (mw ar cy st85 sl86) _ := hP
              obtain rfl := hw
              refine lv_if_ne (tgt := 117) hx hb dX12_readPerson_112 (by decide) (fun cc => absurd (by decide) cc) (fun _ => ?_)
              refine lv_iconst (v := 0) hx hb dX12_readPerson_115 (by decide) ?_
              exact W.zret (v := 0) hx hb hr rfl (fun t ht hW => ⟨⟨0, (st85, sl86), rfl, ⟨hG, hF, Or.inr (⟨n93, n94, rfl, by show st85 0 10 = _; rw [hf95], by show st85 0 11 = _; rw [hf96], by omega, by unfold lPerson; rw [if_neg hf4, hf14, hf28, hf49, hf70, hf98]⟩)⟩, mB.of ht hP⟩, hS.F ht⟩) hS.2.2 dX12_readPerson_116
          · refine va_calli (va_runV (As := [.int (nI (26 + (c 1))), .int 0]) (rest := []) ⟨hx, hb, hml, hown, hts⟩ (f_putF l dC dI ar cy _ hN st64 sl65 (26 + (c 1)) (by omega) hG.1 ) (cwV 2 hts gX12_readPerson_X12_put rfl rfl rfl (by decide +kernel) ⟨Nat.le_of_ble_eq_true rfl, Nat.le_of_ble_eq_true rfl⟩) ⟨fun a U g mk q => ⟨q.1, mPre.blind q.2⟩, va_recv hK hP (ci := 11) (q0 := 0) rfl rfl, fun U hU hW => ⟨rfl, mPre.of hP hK hU hW⟩⟩ rfl rfl hl.1 rfl (lv_room (Nat.le_of_ble_eq_true rfl)) dX12_readPerson_91 ⟨Nat.le_of_ble_eq_true rfl, Nat.le_of_ble_eq_true rfl⟩) hS (fun q _ h => MA.le hS.1 q h) (MA.le hS.1) (fun r107 x t H locs ht hvm hw hB9 _ _ hS => ?_)
            have hP := mB.at ht hB9
            clear hB9 ht hvm
            obtain ⟨rfl, hw⟩ := hw
            have hP : va_P (dC, dI) vwCl (mw ar cy st64 sl65) _ := hP
            obtain rfl := hw
            refine lv_if_eq (tgt := 115) hx hb dX12_readPerson_94 (by decide) (fun _ => ?_) (fun cc => absurd (by decide) cc)
            refine lv_iconst (v := 0) hx hb dX12_readPerson_115 (by decide) ?_
            exact W.zret (v := 0) hx hb hr rfl (fun t ht hW => ⟨⟨0, (st64, sl65), rfl, ⟨hG, hF, Or.inr (⟨n72, n73, rfl, by show st64 0 10 = _; rw [hf74], by show st64 0 11 = _; rw [hf75], by omega, by unfold lPerson; rw [if_neg hf4, hf14, hf28, hf49, hf77]⟩)⟩, mB.of ht hP⟩, hS.F ht⟩) hS.2.2 dX12_readPerson_116
        · refine va_calli (va_runV (As := [.int (nI (18 + (c 1))), .int 0]) (rest := []) ⟨hx, hb, hml, hown, hts⟩ (f_putF l dC dI ar cy _ hN st43 sl44 (18 + (c 1)) (by omega) hG.1 ) (cwV 2 hts gX12_readPerson_X12_put rfl rfl rfl (by decide +kernel) ⟨Nat.le_of_ble_eq_true rfl, Nat.le_of_ble_eq_true rfl⟩) ⟨fun a U g mk q => ⟨q.1, mPre.blind q.2⟩, va_recv hK hP (ci := 11) (q0 := 0) rfl rfl, fun U hU hW => ⟨rfl, mPre.of hP hK hU hW⟩⟩ rfl rfl hl.1 rfl (lv_room (Nat.le_of_ble_eq_true rfl)) dX12_readPerson_65 ⟨Nat.le_of_ble_eq_true rfl, Nat.le_of_ble_eq_true rfl⟩) hS (fun q _ h => MA.le hS.1 q h) (MA.le hS.1) (fun r108 x t H locs ht hvm hw hB9 _ _ hS => ?_)
          have hP := mB.at ht hB9
          clear hB9 ht hvm
          obtain ⟨rfl, hw⟩ := hw
          have hP : va_P (dC, dI) vwCl (mw ar cy st43 sl44) _ := hP
          obtain rfl := hw
          refine lv_if_eq (tgt := 115) hx hb dX12_readPerson_68 (by decide) (fun _ => ?_) (fun cc => absurd (by decide) cc)
          refine lv_iconst (v := 0) hx hb dX12_readPerson_115 (by decide) ?_
          exact W.zret (v := 0) hx hb hr rfl (fun t ht hW => ⟨⟨0, (st43, sl44), rfl, ⟨hG, hF, Or.inr (⟨n51, n52, rfl, by show st43 0 10 = _; rw [hf53], by show st43 0 11 = _; rw [hf54], by omega, by unfold lPerson; rw [if_neg hf4, hf14, hf28, hf56]⟩)⟩, mB.of ht hP⟩, hS.F ht⟩) hS.2.2 dX12_readPerson_116
      · refine va_calli (va_runV (As := [.int (nI (10 + (c 1))), .int 0]) (rest := []) ⟨hx, hb, hml, hown, hts⟩ (f_putF l dC dI ar cy _ hN st23 sl24 (10 + (c 1)) (by omega) hG.1 ) (cwV 2 hts gX12_readPerson_X12_put rfl rfl rfl (by decide +kernel) ⟨Nat.le_of_ble_eq_true rfl, Nat.le_of_ble_eq_true rfl⟩) ⟨fun a U g mk q => ⟨q.1, mPre.blind q.2⟩, va_recv hK hP (ci := 11) (q0 := 0) rfl rfl, fun U hU hW => ⟨rfl, mPre.of hP hK hU hW⟩⟩ rfl rfl hl.1 rfl (lv_room (Nat.le_of_ble_eq_true rfl)) dX12_readPerson_45 ⟨Nat.le_of_ble_eq_true rfl, Nat.le_of_ble_eq_true rfl⟩) hS (fun q _ h => MA.le hS.1 q h) (MA.le hS.1) (fun r109 x t H locs ht hvm hw hB9 _ _ hS => ?_)
        have hP := mB.at ht hB9
        clear hB9 ht hvm
        obtain ⟨rfl, hw⟩ := hw
        have hP : va_P (dC, dI) vwCl (mw ar cy st23 sl24) _ := hP
        obtain rfl := hw
        refine lv_if_ne (tgt := 53) hx hb dX12_readPerson_48 (by decide) (fun cc => absurd (by decide) cc) (fun _ => ?_)
        refine lv_iconst (v := 0) hx hb dX12_readPerson_51 (by decide) ?_
        exact W.zret (v := 0) hx hb hr rfl (fun t ht hW => ⟨⟨0, (st23, sl24), rfl, ⟨hG, hF, Or.inr (⟨n30, n31, rfl, by show st23 0 10 = _; rw [hf32], by show st23 0 11 = _; rw [hf33], by omega, by unfold lPerson; rw [if_neg hf4, hf14, hf35]⟩)⟩, mB.of ht hP⟩, hS.F ht⟩) hS.2.2 dX12_readPerson_52
    · refine lv_if_eq (tgt := 51) hx hb dX12_readPerson_26 (by decide) (fun _ => ?_) (fun cc => absurd (by decide) cc)
      refine lv_iconst (v := 0) hx hb dX12_readPerson_51 (by decide) ?_
      exact W.zret (v := 0) hx hb hr rfl (fun t ht hW => ⟨⟨0, (st10, sl11), rfl, ⟨hG, hF, Or.inr (⟨n16, n17, rfl, by show st10 0 10 = _; rw [hf18], by show st10 0 11 = _; rw [hf19], by omega, by unfold lPerson; rw [if_neg hf4, hf21]⟩)⟩, mB.of ht hP⟩, hS.F ht⟩) hS.2.2 dX12_readPerson_52
  · refine lv_if_ne (tgt := 12) hx hb dX12_readPerson_7 (by decide) (fun cc => absurd (by decide) cc) (fun _ => ?_)
    refine lv_iconst (v := 0) hx hb dX12_readPerson_10 (by decide) ?_
    exact W.zret (v := 0) hx hb hr rfl (fun t ht hW => ⟨⟨0, (st2, sl3), rfl, ⟨hG, hF, Or.inr (⟨4, (tka B g m p), rfl, by show st2 0 10 = _; rw [hf7], by show st2 0 11 = _; rw [hf8], by omega, by unfold lPerson; rw [if_pos hf6]⟩)⟩, mB.of ht hP⟩, hS.F ht⟩) hS.2.2 dX12_readPerson_11
set_option maxHeartbeats 4000000 in
set_option maxRecDepth 100000 in
theorem f_readDog (l : Launch) (dC : Nat → ClassId) (dI : Nat → Nat → Nat) (ar : Nat → Nat) (cy : Nat → ClassId) (sz : Nat) (hN : MN ar) (st : Nat → Nat → Int32) (sl : Nat → Nat → Int64) (B : Nat → Nat) (g m : Nat) (p : Nat) (c : Nat → Nat) (nm : Nat → Nat → Nat) (hI : MI st) (hB : MBt B g m st) (hT : TM B g m p st sl) (hR : RT c nm st sl) (hw : tkw B g m p = 3) : Met l yX12_readDog wsX12_readDog ({ frames := 4, cells := 0, slots := 0, locals := 91 }) (va_Pc [.ref (ar 0)] (mPre dC dI ar cy sz st sl)) (va_Qi (fun (r : Int32) (x : MT) => MG [1, 2, 3, 6, 7, 8, 9, 10, 11, 12, 13, 14, 15, 20, 21, 22] st x.1 ∧ FM 4 st sl x.1 x.2 ∧ ((∃ c1 : Nat → Nat, ∃ n1 : Nat → Nat → Nat, ∃ q : Nat, r = 1 ∧ RT c1 n1 x.1 x.2 ∧ TM B g m q x.1 x.2 ∧ c1 0 + c1 1 + c1 2 + c1 3 + c1 4 = c 0 + c 1 + c 2 + c 3 + c 4 + 1 ∧ lDog B g m p c nm = eEnd B g m q (fun p2 => (0, p2, c1, n1)) ∧ x.1 0 10 = st 0 10) ∨ (∃ f : Nat, ∃ a : Nat, r = 0 ∧ x.1 0 10 = nI f ∧ x.1 0 11 = nI a ∧ 1 ≤ f ∧ lDog B g m p c nm = fl f a))) (mB dC dI ar cy) (MA ar sz)) 0 0 (MA ar sz) := by
  refine Met.ofW (cc := cX12_readDog) (maxL := 2) (ret := (some .boolean)) (by decide) rfl ?_
  intro p9 e s m9 args below meth c9 s₁ B9 hml hv
  obtain ⟨rfl, hsz, hP, hK⟩ := hv
  have hx := B9.exec
  have hb := B9.bytes
  have hr := B9.returns
  have hts := atoms_spec (ws := wsX12_readDog) B9.pre
  have hown : s.vm.findClass RX12 = some m9.cls := findClass_of_methodNamed B9.named
  subst hsz
  have hS : va_S (MA ar s.heap.size) s.heap s.heap [] := va_S.rf
  have hG : MG [1, 2, 3, 6, 7, 8, 9, 10, 11, 12, 13, 14, 15, 20, 21, 22] st st := MG.rf hI
  have hl := lv_entry ([.ref (ar 0)]) (n := 2) (Nat.le_of_ble_eq_true rfl)
  rw [lg_entry_eq]
  generalize (lg_sl ([.ref (ar 0)]) ++ List.replicate (2 - (lg_sl ([.ref (ar 0)])).length) Slot.unset).toArray = ls at hl ⊢
  have hl : lv_has ls 2 [(0, .ref (ar 0))] := hl
  clear hI
  have hB1 := hB.2.2.1
  have hB2 := hB.2.2.2.1
  have hF : FM 4 st sl st sl := FM.rf
  have hp9 := hT.2.2.2.2.2.2
  have hk1 := tkd_lt (B := B) (g := g) (m := m) (p := p)
  have hk2 := tkx_le (B := B) (g := g) (m := m) (p := p) hp9
  have hk3 := tka_le (B := B) (g := g) (m := m) (p := p) hp9 hB.2.2.1
  have hk4 := tkv_lt (p := p) hB hp9
  have hk5 := tkw_lt (B := B) (g := g) (m := m) (p := p)
  have hR9 := hR.2.2.2.2.2.1
  refine lv_aload_n hx hb dX12_readDog_0 rfl (lv_at hl 0 rfl) ?_
  refine lv_iconst (v := 2) hx hb dX12_readDog_1 (by decide) ?_
  refine lv_bipush (v := 6) hx hb dX12_readDog_2 (by decide) ?_
  refine va_calli (va_runV (As := [.int 2, .int 6]) (rest := []) ⟨hx, hb, hml, hown, hts⟩ (f_readFirst2 l dC dI ar cy _ hN st sl B g m p c nm hG.1 (MBt.fr hB hF) hT hR (by have h9 := @tkw_d B g m p; omega)) (cwV 2 hts gX12_readDog_X12_readFirst rfl rfl rfl (by decide +kernel) ⟨Nat.le_of_ble_eq_true rfl, Nat.le_of_ble_eq_true rfl⟩) ⟨fun a U g mk q => ⟨q.1, mPre.blind q.2⟩, va_recv hK hP (ci := 11) (q0 := 0) rfl rfl, fun U hU hW => ⟨rfl, mPre.of hP hK hU hW⟩⟩ rfl rfl hl.1 rfl (lv_room (Nat.le_of_ble_eq_true rfl)) dX12_readDog_4 ⟨Nat.le_of_ble_eq_true rfl, Nat.le_of_ble_eq_true rfl⟩) hS (fun q _ h => MA.le hS.1 q h) (MA.le hS.1) (fun r1 x t H locs ht hvm hw hB9 _ _ hS => ?_)
  have hP := mB.at ht hB9
  clear hB9 ht hvm
  obtain ⟨st2, sl3⟩ := x
  obtain ⟨hG2, hF2, hw⟩ := hw
  dsimp only at hG2 hF2 hw
  have hP : va_P (dC, dI) vwCl (mw ar cy st2 sl3) _ := hP
  have hG : MG [1, 2, 3, 6, 7, 8, 9, 10, 11, 12, 13, 14, 15, 20, 21, 22] st st2 := hG.tr hG2 (by decide)
  have hFst2 : FM 2 st sl st2 sl3 := hF2
  have hF : FM 4 st sl st2 sl3 := hF.tr hFst2 (by omega) (by omega)
  clear hG2 hF2
  have hR : RT c nm st2 sl3 := hR.fr hFst2 (by omega)
  rcases hw with ⟨rfl, hf4, hT, hkx5⟩ | ⟨rfl, hf6, hf7, hf8⟩
  · have hp9 := hT.2.2.2.2.2.2
    have hk1 := tkd_lt (B := B) (g := g) (m := m) (p := (tkx B g m p))
    have hk2 := tkx_le (B := B) (g := g) (m := m) (p := (tkx B g m p)) hp9
    have hk3 := tka_le (B := B) (g := g) (m := m) (p := (tkx B g m p)) hp9 hB.2.2.1
    have hk4 := tkv_lt (p := (tkx B g m p)) hB hp9
    have hk5 := tkw_lt (B := B) (g := g) (m := m) (p := (tkx B g m p))
    refine lv_if_ne (tgt := 12) hx hb dX12_readDog_7 (by decide) (fun _ => ?_) (fun cc => absurd cc (by decide))
    refine lv_aload_n hx hb dX12_readDog_12 rfl (lv_at hl 0 rfl) ?_
    refine va_get (D := (dC, dI)) (ci := 11) (v := .ref (ar 3)) (C := RX12) (T := TX12) (N := 47) hx hb hts ii_X12_readDog hown hK hP 0 rfl rfl 15 (by decide) (hts _ mm_X12_readDog_1) (fun _ hh => hh) rfl dX12_readDog_13 ?_
    refine lv_iconst (v := 2) hx hb dX12_readDog_16 (by decide) ?_
    refine va_iald hx hb hK hP 3 2 rfl rfl (i := 2) (zz_in (by decide)) dX12_readDog_17 ?_
    refine zz_top (v := (nI (c 2))) (by show st2 3 2 = _; rw [hR.2.2.1]) ?_
    refine lv_istore_n (lv' := [(1, .int (nI (c 2))), (0, .ref (ar 0))]) hx hb dX12_readDog_18 rfl hl (by decide) rfl (fun ls hl => ?_)
    refine lv_aload_n hx hb dX12_readDog_19 rfl (lv_at hl 1 rfl) ?_
    refine lv_bipush (v := 13) hx hb dX12_readDog_20 (by decide) ?_
    refine lv_iload_n hx hb dX12_readDog_22 rfl (lv_at hl 0 rfl) ?_
    refine lv_iadd hx hb dX12_readDog_23 ?_
    refine zz_top (v := nI (13 + (c 2))) (nI_add 13 (c 2)) ?_
    refine va_calli (va_runV (As := [.int (nI (13 + (c 2)))]) (rest := []) ⟨hx, hb, hml, hown, hts⟩ (f_readNew l dC dI ar cy _ hN st2 sl3 (13 + (c 2)) B g m (tkx B g m p) c nm (by omega) hG.1 (MBt.fr hB hF) hT hR (fun a9 ha i hi e => hR.free (b := 2) (by decide) ⟨by omega, by omega⟩ a9 ha i hi (by rw [e]; rfl))) (cwV 1 hts gX12_readDog_X12_readNew rfl rfl rfl (by decide +kernel) ⟨Nat.le_of_ble_eq_true rfl, Nat.le_of_ble_eq_true rfl⟩) ⟨fun a U g mk q => ⟨q.1, mPre.blind q.2⟩, va_recv hK hP (ci := 11) (q0 := 0) rfl rfl, fun U hU hW => ⟨rfl, mPre.of hP hK hU hW⟩⟩ rfl rfl hl.1 rfl (lv_room (Nat.le_of_ble_eq_true rfl)) dX12_readDog_24 ⟨Nat.le_of_ble_eq_true rfl, Nat.le_of_ble_eq_true rfl⟩) hS (fun q _ h => MA.le hS.1 q h) (MA.le hS.1) (fun r9 x t H locs ht hvm hw hB9 _ _ hS => ?_)
    have hP := mB.at ht hB9
    clear hB9 ht hvm
    obtain ⟨st10, sl11⟩ := x
    obtain ⟨hG2, hF2, hw⟩ := hw
    dsimp only at hG2 hF2 hw
    have hP : va_P (dC, dI) vwCl (mw ar cy st10 sl11) _ := hP
    have hG : MG [1, 2, 3, 6, 7, 8, 9, 10, 11, 12, 13, 14, 15, 20, 21, 22] st st10 := hG.tr hG2 (by decide)
    have hFst10 : FM 3 st2 sl3 st10 sl11 := hF2
    have hF : FM 4 st sl st10 sl11 := hF.tr hFst10 (by omega) (by omega)
    clear hG2 hF2
    rcases hw with ⟨rfl, hf12, hN9, hf13, hR, hT, hf14, hk15⟩ | ⟨n16, n17, rfl, hf18, hf19, hf20, hf21⟩
    · have hp9 := hT.2.2.2.2.2.2
      have hk1 := tkd_lt (B := B) (g := g) (m := m) (p := (tkx B g m (tkx B g m p)))
      have hk2 := tkx_le (B := B) (g := g) (m := m) (p := (tkx B g m (tkx B g m p))) hp9
      have hk3 := tka_le (B := B) (g := g) (m := m) (p := (tkx B g m (tkx B g m p))) hp9 hB.2.2.1
      have hk4 := tkv_lt (p := (tkx B g m (tkx B g m p))) hB hp9
      have hk5 := tkw_lt (B := B) (g := g) (m := m) (p := (tkx B g m (tkx B g m p)))
      refine lv_if_eq (tgt := 52) hx hb dX12_readDog_27 (by decide) (fun cc => absurd cc (by decide)) (fun _ => ?_)
      refine lv_aload_n hx hb dX12_readDog_30 rfl (lv_at hl 1 rfl) ?_
      refine lv_bipush (v := 42) hx hb dX12_readDog_31 (by decide) ?_
      refine lv_iload_n hx hb dX12_readDog_33 rfl (lv_at hl 0 rfl) ?_
      refine lv_iadd hx hb dX12_readDog_34 ?_
      refine zz_top (v := nI (42 + (c 2))) (nI_add 42 (c 2)) ?_
      refine lv_aload_n hx hb dX12_readDog_35 rfl (lv_at hl 1 rfl) ?_
      refine lv_iconst (v := 5) hx hb dX12_readDog_36 (by decide) ?_
      refine lv_aload_n hx hb dX12_readDog_37 rfl (lv_at hl 1 rfl) ?_
      refine va_get (D := (dC, dI)) (ci := 11) (v := .ref (ar 3)) (C := RX12) (T := TX12) (N := 47) hx hb hts ii_X12_readDog hown hK hP 0 rfl rfl 15 (by decide) (hts _ mm_X12_readDog_1) (fun _ hh => hh) rfl dX12_readDog_38 ?_
      refine lv_iconst (v := 1) hx hb dX12_readDog_41 (by decide) ?_
      refine va_iald hx hb hK hP 3 2 rfl rfl (i := 1) (zz_in (by decide)) dX12_readDog_42 ?_
      refine zz_top (v := (nI (c 1))) (by show st10 3 1 = _; rw [hR.2.1]) ?_
      refine va_calli (va_runV (As := [.int 5, .int (nI (c 1))]) (rest := [.int (nI (42 + (c 2))), .ref (ar 0)]) ⟨hx, hb, hml, hown, hts⟩ (f_readOne1 l dC dI ar cy _ hN st10 sl11 (c 1) B g m (tkx B g m (tkx B g m p)) c nm (by omega) hG.1 (MBt.fr hB hF) hT hR (by omega)) (cwV 2 hts gX12_readDog_X12_readOne rfl rfl rfl (by decide +kernel) ⟨Nat.le_of_ble_eq_true rfl, Nat.le_of_ble_eq_true rfl⟩) ⟨fun a U g mk q => ⟨q.1, mPre.blind q.2⟩, va_recv hK hP (ci := 11) (q0 := 0) rfl rfl, fun U hU hW => ⟨rfl, mPre.of hP hK hU hW⟩⟩ rfl rfl hl.1 rfl (lv_room (Nat.le_of_ble_eq_true rfl)) dX12_readDog_43 ⟨Nat.le_of_ble_eq_true rfl, Nat.le_of_ble_eq_true rfl⟩) hS (fun q _ h => MA.le hS.1 q h) (MA.le hS.1) (fun r22 x t H locs ht hvm hw hB9 _ _ hS => ?_)
      have hP := mB.at ht hB9
      clear hB9 ht hvm
      obtain ⟨st23, sl24⟩ := x
      obtain ⟨hG2, hF2, hw⟩ := hw
      dsimp only at hG2 hF2 hw
      have hP : va_P (dC, dI) vwCl (mw ar cy st23 sl24) _ := hP
      have hG : MG [1, 2, 3, 6, 7, 8, 9, 10, 11, 12, 13, 14, 15, 20, 21, 22] st st23 := hG.tr hG2 (by decide)
      have hFst23 : FM 2 st10 sl11 st23 sl24 := hF2
      have hF : FM 4 st sl st23 sl24 := hF.tr hFst23 (by omega) (by omega)
      clear hG2 hF2
      have hR : RT c nm st23 sl24 := hR.fr hFst23 (by omega)
      have hN9 : sl24 8 (13 + (c 2)) = lN (c7 7 (tkc B g (tkx B g m p))) := by rw [(hFst23 8 _ (dm_8 (by omega) _)).2]; exact hN9
      rcases hw with ⟨n25, rfl, hf26, hf27, hT, hf28, hk29⟩ | ⟨n30, n31, rfl, hf32, hf33, hf34, hf35⟩
      · have hp9 := hT.2.2.2.2.2.2
        have hk1 := tkd_lt (B := B) (g := g) (m := m) (p := (tkx B g m (tkx B g m (tkx B g m p))))
        have hk2 := tkx_le (B := B) (g := g) (m := m) (p := (tkx B g m (tkx B g m (tkx B g m p)))) hp9
        have hk3 := tka_le (B := B) (g := g) (m := m) (p := (tkx B g m (tkx B g m (tkx B g m p)))) hp9 hB.2.2.1
        have hk4 := tkv_lt (p := (tkx B g m (tkx B g m (tkx B g m p)))) hB hp9
        have hk5 := tkw_lt (B := B) (g := g) (m := m) (p := (tkx B g m (tkx B g m (tkx B g m p))))
        refine va_calli (va_runV (As := [.int (nI (42 + (c 2))), .int 1]) (rest := []) ⟨hx, hb, hml, hown, hts⟩ (f_put42 l dC dI ar cy _ hN st23 sl24 (42 + (c 2)) B g m (tkx B g m (tkx B g m (tkx B g m p))) c nm n25 (by omega) (by omega) hG.1 (MBt.fr hB hF) hT hR (by rw [hf27]) (by omega)) (cwV 2 hts gX12_readDog_X12_put rfl rfl rfl (by decide +kernel) ⟨Nat.le_of_ble_eq_true rfl, Nat.le_of_ble_eq_true rfl⟩) ⟨fun a U g mk q => ⟨q.1, mPre.blind q.2⟩, va_recv hK hP (ci := 11) (q0 := 0) rfl rfl, fun U hU hW => ⟨rfl, mPre.of hP hK hU hW⟩⟩ rfl rfl hl.1 rfl (lv_room (Nat.le_of_ble_eq_true rfl)) dX12_readDog_46 ⟨Nat.le_of_ble_eq_true rfl, Nat.le_of_ble_eq_true rfl⟩) hS (fun q _ h => MA.le hS.1 q h) (MA.le hS.1) (fun r36 x t H locs ht hvm hw hB9 _ _ hS => ?_)
        have hP := mB.at ht hB9
        clear hB9 ht hvm
        obtain ⟨st37, sl38⟩ := x
        obtain ⟨hG2, hF2, hw⟩ := hw
        dsimp only at hG2 hF2 hw
        have hP : va_P (dC, dI) vwCl (mw ar cy st37 sl38) _ := hP
        have hG : MG [1, 2, 3, 6, 7, 8, 9, 10, 11, 12, 13, 14, 15, 20, 21, 22] st st37 := hG.tr hG2 (by decide)
        have hFst37 : FM 4 st23 sl24 st37 sl38 := hF2
        have hF : FM 4 st sl st37 sl38 := hF.tr hFst37 (by omega) (by omega)
        clear hG2 hF2
        obtain ⟨rfl, hf39, hf40, hR, hT, hk41⟩ := hw
        have hN9 : sl38 8 (13 + (c 2)) = lN (c7 7 (tkc B g (tkx B g m p))) := by rw [hf39]; exact hN9
        have hp9 := hT.2.2.2.2.2.2
        have hk1 := tkd_lt (B := B) (g := g) (m := m) (p := (tkx B g m (tkx B g m (tkx B g m p))))
        have hk2 := tkx_le (B := B) (g := g) (m := m) (p := (tkx B g m (tkx B g m (tkx B g m p)))) hp9
        have hk3 := tka_le (B := B) (g := g) (m := m) (p := (tkx B g m (tkx B g m (tkx B g m p)))) hp9 hB.2.2.1
        have hk4 := tkv_lt (p := (tkx B g m (tkx B g m (tkx B g m p)))) hB hp9
        have hk5 := tkw_lt (B := B) (g := g) (m := m) (p := (tkx B g m (tkx B g m (tkx B g m p))))
        refine lv_if_ne (tgt := 54) hx hb dX12_readDog_49 (by decide) (fun _ => ?_) (fun cc => absurd cc (by decide))
        refine lv_aload_n hx hb dX12_readDog_54 rfl (lv_at hl 1 rfl) ?_
        refine lv_bipush (v := 48) hx hb dX12_readDog_55 (by decide) ?_
        refine lv_iload_n hx hb dX12_readDog_57 rfl (lv_at hl 0 rfl) ?_
        refine lv_iadd hx hb dX12_readDog_58 ?_
        refine zz_top (v := nI (48 + (c 2))) (nI_add 48 (c 2)) ?_
        refine lv_aload_n hx hb dX12_readDog_59 rfl (lv_at hl 1 rfl) ?_
        refine lv_iconst (v := 0) hx hb dX12_readDog_60 (by decide) ?_
        refine lv_bipush (v := 12) hx hb dX12_readDog_61 (by decide) ?_
        refine va_calli (va_runV (As := [.int 0, .int 12]) (rest := [.int (nI (48 + (c 2))), .ref (ar 0)]) ⟨hx, hb, hml, hown, hts⟩ (f_readNumber l dC dI ar cy _ hN st37 sl38 0 12 B g m (tkx B g m (tkx B g m (tkx B g m p))) (by omega) (by omega) hG.1 (MBt.fr hB hF) hT) (cwV 2 hts gX12_readDog_X12_readNumber rfl rfl rfl (by decide +kernel) ⟨Nat.le_of_ble_eq_true rfl, Nat.le_of_ble_eq_true rfl⟩) ⟨fun a U g mk q => ⟨q.1, mPre.blind q.2⟩, va_recv hK hP (ci := 11) (q0 := 0) rfl rfl, fun U hU hW => ⟨rfl, mPre.of hP hK hU hW⟩⟩ rfl rfl hl.1 rfl (lv_room (Nat.le_of_ble_eq_true rfl)) dX12_readDog_63 ⟨Nat.le_of_ble_eq_true rfl, Nat.le_of_ble_eq_true rfl⟩) hS (fun q _ h => MA.le hS.1 q h) (MA.le hS.1) (fun r42 x t H locs ht hvm hw hB9 _ _ hS => ?_)
        have hP := mB.at ht hB9
        clear hB9 ht hvm
        obtain ⟨st43, sl44⟩ := x
        obtain ⟨hG2, hF2, hw⟩ := hw
        dsimp only at hG2 hF2 hw
        have hP : va_P (dC, dI) vwCl (mw ar cy st43 sl44) _ := hP
        have hG : MG [1, 2, 3, 6, 7, 8, 9, 10, 11, 12, 13, 14, 15, 20, 21, 22] st st43 := hG.tr hG2 (by decide)
        have hFst43 : FM 2 st37 sl38 st43 sl44 := hF2
        have hF : FM 4 st sl st43 sl44 := hF.tr hFst43 (by omega) (by omega)
        clear hG2 hF2
        have hR : RT c nm st43 sl44 := hR.fr hFst43 (by omega)
        have hN9 : sl44 8 (13 + (c 2)) = lN (c7 7 (tkc B g (tkx B g m p))) := by rw [(hFst43 8 _ (dm_8 (by omega) _)).2]; exact hN9
        rcases hw with ⟨rfl, hf45, hf46, hf47, hf48, hT, hf49, hk50⟩ | ⟨n51, n52, rfl, hf53, hf54, hf55, hf56⟩
        · have hp9 := hT.2.2.2.2.2.2
          have hk1 := tkd_lt (B := B) (g := g) (m := m) (p := (tkx B g m (tkx B g m (tkx B g m (tkx B g m p)))))
          have hk2 := tkx_le (B := B) (g := g) (m := m) (p := (tkx B g m (tkx B g m (tkx B g m (tkx B g m p))))) hp9
          have hk3 := tka_le (B := B) (g := g) (m := m) (p := (tkx B g m (tkx B g m (tkx B g m (tkx B g m p))))) hp9 hB.2.2.1
          have hk4 := tkv_lt (p := (tkx B g m (tkx B g m (tkx B g m (tkx B g m p))))) hB hp9
          have hk5 := tkw_lt (B := B) (g := g) (m := m) (p := (tkx B g m (tkx B g m (tkx B g m (tkx B g m p)))))
          refine va_calli (va_runV (As := [.int (nI (48 + (c 2))), .int 1]) (rest := []) ⟨hx, hb, hml, hown, hts⟩ (f_put48 l dC dI ar cy _ hN st43 sl44 (48 + (c 2)) B g m (tkx B g m (tkx B g m (tkx B g m (tkx B g m p)))) c nm (tkv B g (tkx B g m (tkx B g m (tkx B g m p)))) (by omega) (by omega) hG.1 (MBt.fr hB hF) hT hR (by rw [hf48]) (by omega)) (cwV 2 hts gX12_readDog_X12_put rfl rfl rfl (by decide +kernel) ⟨Nat.le_of_ble_eq_true rfl, Nat.le_of_ble_eq_true rfl⟩) ⟨fun a U g mk q => ⟨q.1, mPre.blind q.2⟩, va_recv hK hP (ci := 11) (q0 := 0) rfl rfl, fun U hU hW => ⟨rfl, mPre.of hP hK hU hW⟩⟩ rfl rfl hl.1 rfl (lv_room (Nat.le_of_ble_eq_true rfl)) dX12_readDog_66 ⟨Nat.le_of_ble_eq_true rfl, Nat.le_of_ble_eq_true rfl⟩) hS (fun q _ h => MA.le hS.1 q h) (MA.le hS.1) (fun r57 x t H locs ht hvm hw hB9 _ _ hS => ?_)
          have hP := mB.at ht hB9
          clear hB9 ht hvm
          obtain ⟨st58, sl59⟩ := x
          obtain ⟨hG2, hF2, hw⟩ := hw
          dsimp only at hG2 hF2 hw
          have hP : va_P (dC, dI) vwCl (mw ar cy st58 sl59) _ := hP
          have hG : MG [1, 2, 3, 6, 7, 8, 9, 10, 11, 12, 13, 14, 15, 20, 21, 22] st st58 := hG.tr hG2 (by decide)
          have hFst58 : FM 4 st43 sl44 st58 sl59 := hF2
          have hF : FM 4 st sl st58 sl59 := hF.tr hFst58 (by omega) (by omega)
          clear hG2 hF2
          obtain ⟨rfl, hf60, hf61, hR, hT, hk62⟩ := hw
          have hN9 : sl59 8 (13 + (c 2)) = lN (c7 7 (tkc B g (tkx B g m p))) := by rw [hf60]; exact hN9
          have hp9 := hT.2.2.2.2.2.2
          have hk1 := tkd_lt (B := B) (g := g) (m := m) (p := (tkx B g m (tkx B g m (tkx B g m (tkx B g m p)))))
          have hk2 := tkx_le (B := B) (g := g) (m := m) (p := (tkx B g m (tkx B g m (tkx B g m (tkx B g m p))))) hp9
          have hk3 := tka_le (B := B) (g := g) (m := m) (p := (tkx B g m (tkx B g m (tkx B g m (tkx B g m p))))) hp9 hB.2.2.1
          have hk4 := tkv_lt (p := (tkx B g m (tkx B g m (tkx B g m (tkx B g m p))))) hB hp9
          have hk5 := tkw_lt (B := B) (g := g) (m := m) (p := (tkx B g m (tkx B g m (tkx B g m (tkx B g m p)))))
          refine lv_if_eq (tgt := 90) hx hb dX12_readDog_69 (by decide) (fun cc => absurd cc (by decide)) (fun _ => ?_)
          refine lv_aload_n hx hb dX12_readDog_72 rfl (lv_at hl 1 rfl) ?_
          refine lv_bipush (v := 54) hx hb dX12_readDog_73 (by decide) ?_
          refine lv_iload_n hx hb dX12_readDog_75 rfl (lv_at hl 0 rfl) ?_
          refine lv_iadd hx hb dX12_readDog_76 ?_
          refine zz_top (v := nI (54 + (c 2))) (nI_add 54 (c 2)) ?_
          refine lv_aload_n hx hb dX12_readDog_77 rfl (lv_at hl 1 rfl) ?_
          refine lv_iconst (v := 0) hx hb dX12_readDog_78 (by decide) ?_
          refine lv_bipush (v := 12) hx hb dX12_readDog_79 (by decide) ?_
          refine va_calli (va_runV (As := [.int 0, .int 12]) (rest := [.int (nI (54 + (c 2))), .ref (ar 0)]) ⟨hx, hb, hml, hown, hts⟩ (f_readNumber l dC dI ar cy _ hN st58 sl59 0 12 B g m (tkx B g m (tkx B g m (tkx B g m (tkx B g m p)))) (by omega) (by omega) hG.1 (MBt.fr hB hF) hT) (cwV 2 hts gX12_readDog_X12_readNumber rfl rfl rfl (by decide +kernel) ⟨Nat.le_of_ble_eq_true rfl, Nat.le_of_ble_eq_true rfl⟩) ⟨fun a U g mk q => ⟨q.1, mPre.blind q.2⟩, va_recv hK hP (ci := 11) (q0 := 0) rfl rfl, fun U hU hW => ⟨rfl, mPre.of hP hK hU hW⟩⟩ rfl rfl hl.1 rfl (lv_room (Nat.le_of_ble_eq_true rfl)) dX12_readDog_81 ⟨Nat.le_of_ble_eq_true rfl, Nat.le_of_ble_eq_true rfl⟩) hS (fun q _ h => MA.le hS.1 q h) (MA.le hS.1) (fun r63 x t H locs ht hvm hw hB9 _ _ hS => ?_)
          have hP := mB.at ht hB9
          clear hB9 ht hvm
          obtain ⟨st64, sl65⟩ := x
          obtain ⟨hG2, hF2, hw⟩ := hw
          dsimp only at hG2 hF2 hw
          have hP : va_P (dC, dI) vwCl (mw ar cy st64 sl65) _ := hP
          have hG : MG [1, 2, 3, 6, 7, 8, 9, 10, 11, 12, 13, 14, 15, 20, 21, 22] st st64 := hG.tr hG2 (by decide)
          have hFst64 : FM 2 st58 sl59 st64 sl65 := hF2
          have hF : FM 4 st sl st64 sl65 := hF.tr hFst64 (by omega) (by omega)
          clear hG2 hF2
          have hR : RT c nm st64 sl65 := hR.fr hFst64 (by omega)
          have hN9 : sl65 8 (13 + (c 2)) = lN (c7 7 (tkc B g (tkx B g m p))) := by rw [(hFst64 8 _ (dm_8 (by omega) _)).2]; exact hN9
          rcases hw with ⟨rfl, hf66, hf67, hf68, hf69, hT, hf70, hk71⟩ | ⟨n72, n73, rfl, hf74, hf75, hf76, hf77⟩
          · have hp9 := hT.2.2.2.2.2.2
            have hk1 := tkd_lt (B := B) (g := g) (m := m) (p := (tkx B g m (tkx B g m (tkx B g m (tkx B g m (tkx B g m p))))))
            have hk2 := tkx_le (B := B) (g := g) (m := m) (p := (tkx B g m (tkx B g m (tkx B g m (tkx B g m (tkx B g m p)))))) hp9
            have hk3 := tka_le (B := B) (g := g) (m := m) (p := (tkx B g m (tkx B g m (tkx B g m (tkx B g m (tkx B g m p)))))) hp9 hB.2.2.1
            have hk4 := tkv_lt (p := (tkx B g m (tkx B g m (tkx B g m (tkx B g m (tkx B g m p)))))) hB hp9
            have hk5 := tkw_lt (B := B) (g := g) (m := m) (p := (tkx B g m (tkx B g m (tkx B g m (tkx B g m (tkx B g m p))))))
            refine va_calli (va_runV (As := [.int (nI (54 + (c 2))), .int 1]) (rest := []) ⟨hx, hb, hml, hown, hts⟩ (f_put54 l dC dI ar cy _ hN st64 sl65 (54 + (c 2)) B g m (tkx B g m (tkx B g m (tkx B g m (tkx B g m (tkx B g m p))))) c nm (tkv B g (tkx B g m (tkx B g m (tkx B g m (tkx B g m p))))) (by omega) (by omega) hG.1 (MBt.fr hB hF) hT hR (by rw [hf69]) (by omega)) (cwV 2 hts gX12_readDog_X12_put rfl rfl rfl (by decide +kernel) ⟨Nat.le_of_ble_eq_true rfl, Nat.le_of_ble_eq_true rfl⟩) ⟨fun a U g mk q => ⟨q.1, mPre.blind q.2⟩, va_recv hK hP (ci := 11) (q0 := 0) rfl rfl, fun U hU hW => ⟨rfl, mPre.of hP hK hU hW⟩⟩ rfl rfl hl.1 rfl (lv_room (Nat.le_of_ble_eq_true rfl)) dX12_readDog_84 ⟨Nat.le_of_ble_eq_true rfl, Nat.le_of_ble_eq_true rfl⟩) hS (fun q _ h => MA.le hS.1 q h) (MA.le hS.1) (fun r78 x t H locs ht hvm hw hB9 _ _ hS => ?_)
            have hP := mB.at ht hB9
            clear hB9 ht hvm
            obtain ⟨st79, sl80⟩ := x
            obtain ⟨hG2, hF2, hw⟩ := hw
            dsimp only at hG2 hF2 hw
            have hP : va_P (dC, dI) vwCl (mw ar cy st79 sl80) _ := hP
            have hG : MG [1, 2, 3, 6, 7, 8, 9, 10, 11, 12, 13, 14, 15, 20, 21, 22] st st79 := hG.tr hG2 (by decide)
            have hFst79 : FM 4 st64 sl65 st79 sl80 := hF2
            have hF : FM 4 st sl st79 sl80 := hF.tr hFst79 (by omega) (by omega)
            clear hG2 hF2
            obtain ⟨rfl, hf81, hf82, hR, hT, hk83⟩ := hw
            have hN9 : sl80 8 (13 + (c 2)) = lN (c7 7 (tkc B g (tkx B g m p))) := by rw [hf81]; exact hN9
            have hp9 := hT.2.2.2.2.2.2
            have hk1 := tkd_lt (B := B) (g := g) (m := m) (p := (tkx B g m (tkx B g m (tkx B g m (tkx B g m (tkx B g m p))))))
            have hk2 := tkx_le (B := B) (g := g) (m := m) (p := (tkx B g m (tkx B g m (tkx B g m (tkx B g m (tkx B g m p)))))) hp9
            have hk3 := tka_le (B := B) (g := g) (m := m) (p := (tkx B g m (tkx B g m (tkx B g m (tkx B g m (tkx B g m p)))))) hp9 hB.2.2.1
            have hk4 := tkv_lt (p := (tkx B g m (tkx B g m (tkx B g m (tkx B g m (tkx B g m p)))))) hB hp9
            have hk5 := tkw_lt (B := B) (g := g) (m := m) (p := (tkx B g m (tkx B g m (tkx B g m (tkx B g m (tkx B g m p))))))
            refine lv_if_ne (tgt := 92) hx hb dX12_readDog_87 (by decide) (fun _ => ?_) (fun cc => absurd cc (by decide))
            refine lv_aload_n hx hb dX12_readDog_92 rfl (lv_at hl 1 rfl) ?_
            refine va_get (D := (dC, dI)) (ci := 11) (v := .ref (ar 3)) (C := RX12) (T := TX12) (N := 47) hx hb hts ii_X12_readDog hown hK hP 0 rfl rfl 15 (by decide) (hts _ mm_X12_readDog_1) (fun _ hh => hh) rfl dX12_readDog_93 ?_
            refine lv_iconst (v := 2) hx hb dX12_readDog_96 (by decide) ?_
            refine lv_dup2_11 hx hb dX12_readDog_97 rfl rfl ?_
            refine va_iald hx hb hK hP 3 2 rfl rfl (i := 2) (zz_in (by decide)) dX12_readDog_98 ?_
            refine zz_top (v := (nI (c 2))) (by show st79 3 2 = _; rw [hR.2.2.1]) ?_
            refine lv_iconst (v := 1) hx hb dX12_readDog_99 (by decide) ?_
            refine lv_iadd hx hb dX12_readDog_100 ?_
            refine zz_top (v := nI ((c 2) + 1)) (nI_add (c 2) 1) ?_
            refine va_iast hx hb hK hP (mD hN _ _ _ _) hS 3 2 rfl rfl (i := 2) (zz_in (by decide)) dX12_readDog_101 (fun H locs hP _ hS => ?_)
            have hP : va_P (dC, dI) vwCl (mw ar cy (up2 st79 3 2 (nI ((c 2) + 1))) sl80) H := hP
            obtain ⟨st84, est84⟩ : ∃ y, y = up2 st79 3 2 (nI ((c 2) + 1)) := ⟨_, rfl⟩
            have hG : MG [1, 2, 3, 6, 7, 8, 9, 10, 11, 12, 13, 14, 15, 20, 21, 22] st st84 := by rw [est84]; exact hG.up (rn (n := ((c 2) + 1)) (by decide : mr 3 2 = 7) (by omega)) (pn (by decide : pcl 3 2 = 19) (by decide))
            rw [← est84] at hP
            have hF : FM 4 st sl st84 sl80 := by rw [est84]; exact hF.up (by decide)
            have hT : TM B g m (tkx B g m (tkx B g m (tkx B g m (tkx B g m (tkx B g m p))))) st84 sl80 := by rw [est84]; exact hT.up (by omega)
            have hR : RT (uN c 2 (c 2 + 1)) (uM nm 2 (c 2) (tkc B g (tkx B g m p))) st84 sl80 := by rw [est84]; exact hR.inc (a := 2) (by decide) ⟨by omega, by omega, by omega⟩ hf13 hN9
            refine lv_iconst (v := 1) hx hb dX12_readDog_102 (by decide) ?_
            exact W.zret (v := 1) hx hb hr rfl (fun t ht hW => ⟨⟨1, (st84, sl80), rfl, ⟨hG, hF, Or.inl (⟨(uN c 2 (c 2 + 1)), (uM nm 2 (c 2) (tkc B g (tkx B g m p))), (tkx B g m (tkx B g m (tkx B g m (tkx B g m (tkx B g m p))))), rfl, hR, hT, uN_sum (a := 2) (by decide) rfl, by unfold lDog; rw [if_neg hf4, hf14, hf28, hf49, hf70], by show st84 0 10 = st 0 10; rw [est84, up2_ne (r := 3) (k := 2) (a := 0) (j := 10) _ _ (by omega), hk83, hk71, hk62, hk50, hk41, hk29, hk15, hkx5]⟩)⟩, mB.of ht hP⟩, hS.F ht⟩) hS.2.2 dX12_readDog_103
          · refine va_calli (va_runV (As := [.int (nI (54 + (c 2))), .int 0]) (rest := []) ⟨hx, hb, hml, hown, hts⟩ (f_putF l dC dI ar cy _ hN st64 sl65 (54 + (c 2)) (by omega) hG.1 ) (cwV 2 hts gX12_readDog_X12_put rfl rfl rfl (by decide +kernel) ⟨Nat.le_of_ble_eq_true rfl, Nat.le_of_ble_eq_true rfl⟩) ⟨fun a U g mk q => ⟨q.1, mPre.blind q.2⟩, va_recv hK hP (ci := 11) (q0 := 0) rfl rfl, fun U hU hW => ⟨rfl, mPre.of hP hK hU hW⟩⟩ rfl rfl hl.1 rfl (lv_room (Nat.le_of_ble_eq_true rfl)) dX12_readDog_84 ⟨Nat.le_of_ble_eq_true rfl, Nat.le_of_ble_eq_true rfl⟩) hS (fun q _ h => MA.le hS.1 q h) (MA.le hS.1) (fun r85 x t H locs ht hvm hw hB9 _ _ hS => ?_)
            have hP := mB.at ht hB9
            clear hB9 ht hvm
            obtain ⟨rfl, hw⟩ := hw
            have hP : va_P (dC, dI) vwCl (mw ar cy st64 sl65) _ := hP
            obtain rfl := hw
            refine lv_if_ne (tgt := 92) hx hb dX12_readDog_87 (by decide) (fun cc => absurd (by decide) cc) (fun _ => ?_)
            refine lv_iconst (v := 0) hx hb dX12_readDog_90 (by decide) ?_
            exact W.zret (v := 0) hx hb hr rfl (fun t ht hW => ⟨⟨0, (st64, sl65), rfl, ⟨hG, hF, Or.inr (⟨n72, n73, rfl, by show st64 0 10 = _; rw [hf74], by show st64 0 11 = _; rw [hf75], by omega, by unfold lDog; rw [if_neg hf4, hf14, hf28, hf49, hf77]⟩)⟩, mB.of ht hP⟩, hS.F ht⟩) hS.2.2 dX12_readDog_91
        · refine va_calli (va_runV (As := [.int (nI (48 + (c 2))), .int 0]) (rest := []) ⟨hx, hb, hml, hown, hts⟩ (f_putF l dC dI ar cy _ hN st43 sl44 (48 + (c 2)) (by omega) hG.1 ) (cwV 2 hts gX12_readDog_X12_put rfl rfl rfl (by decide +kernel) ⟨Nat.le_of_ble_eq_true rfl, Nat.le_of_ble_eq_true rfl⟩) ⟨fun a U g mk q => ⟨q.1, mPre.blind q.2⟩, va_recv hK hP (ci := 11) (q0 := 0) rfl rfl, fun U hU hW => ⟨rfl, mPre.of hP hK hU hW⟩⟩ rfl rfl hl.1 rfl (lv_room (Nat.le_of_ble_eq_true rfl)) dX12_readDog_66 ⟨Nat.le_of_ble_eq_true rfl, Nat.le_of_ble_eq_true rfl⟩) hS (fun q _ h => MA.le hS.1 q h) (MA.le hS.1) (fun r86 x t H locs ht hvm hw hB9 _ _ hS => ?_)
          have hP := mB.at ht hB9
          clear hB9 ht hvm
          obtain ⟨rfl, hw⟩ := hw
          have hP : va_P (dC, dI) vwCl (mw ar cy st43 sl44) _ := hP
          obtain rfl := hw
          refine lv_if_eq (tgt := 90) hx hb dX12_readDog_69 (by decide) (fun _ => ?_) (fun cc => absurd (by decide) cc)
          refine lv_iconst (v := 0) hx hb dX12_readDog_90 (by decide) ?_
          exact W.zret (v := 0) hx hb hr rfl (fun t ht hW => ⟨⟨0, (st43, sl44), rfl, ⟨hG, hF, Or.inr (⟨n51, n52, rfl, by show st43 0 10 = _; rw [hf53], by show st43 0 11 = _; rw [hf54], by omega, by unfold lDog; rw [if_neg hf4, hf14, hf28, hf56]⟩)⟩, mB.of ht hP⟩, hS.F ht⟩) hS.2.2 dX12_readDog_91
      · refine va_calli (va_runV (As := [.int (nI (42 + (c 2))), .int 0]) (rest := []) ⟨hx, hb, hml, hown, hts⟩ (f_putF l dC dI ar cy _ hN st23 sl24 (42 + (c 2)) (by omega) hG.1 ) (cwV 2 hts gX12_readDog_X12_put rfl rfl rfl (by decide +kernel) ⟨Nat.le_of_ble_eq_true rfl, Nat.le_of_ble_eq_true rfl⟩) ⟨fun a U g mk q => ⟨q.1, mPre.blind q.2⟩, va_recv hK hP (ci := 11) (q0 := 0) rfl rfl, fun U hU hW => ⟨rfl, mPre.of hP hK hU hW⟩⟩ rfl rfl hl.1 rfl (lv_room (Nat.le_of_ble_eq_true rfl)) dX12_readDog_46 ⟨Nat.le_of_ble_eq_true rfl, Nat.le_of_ble_eq_true rfl⟩) hS (fun q _ h => MA.le hS.1 q h) (MA.le hS.1) (fun r87 x t H locs ht hvm hw hB9 _ _ hS => ?_)
        have hP := mB.at ht hB9
        clear hB9 ht hvm
        obtain ⟨rfl, hw⟩ := hw
        have hP : va_P (dC, dI) vwCl (mw ar cy st23 sl24) _ := hP
        obtain rfl := hw
        refine lv_if_ne (tgt := 54) hx hb dX12_readDog_49 (by decide) (fun cc => absurd (by decide) cc) (fun _ => ?_)
        refine lv_iconst (v := 0) hx hb dX12_readDog_52 (by decide) ?_
        exact W.zret (v := 0) hx hb hr rfl (fun t ht hW => ⟨⟨0, (st23, sl24), rfl, ⟨hG, hF, Or.inr (⟨n30, n31, rfl, by show st23 0 10 = _; rw [hf32], by show st23 0 11 = _; rw [hf33], by omega, by unfold lDog; rw [if_neg hf4, hf14, hf35]⟩)⟩, mB.of ht hP⟩, hS.F ht⟩) hS.2.2 dX12_readDog_53
    · refine lv_if_eq (tgt := 52) hx hb dX12_readDog_27 (by decide) (fun _ => ?_) (fun cc => absurd (by decide) cc)
      refine lv_iconst (v := 0) hx hb dX12_readDog_52 (by decide) ?_
      exact W.zret (v := 0) hx hb hr rfl (fun t ht hW => ⟨⟨0, (st10, sl11), rfl, ⟨hG, hF, Or.inr (⟨n16, n17, rfl, by show st10 0 10 = _; rw [hf18], by show st10 0 11 = _; rw [hf19], by omega, by unfold lDog; rw [if_neg hf4, hf21]⟩)⟩, mB.of ht hP⟩, hS.F ht⟩) hS.2.2 dX12_readDog_53
  · refine lv_if_ne (tgt := 12) hx hb dX12_readDog_7 (by decide) (fun cc => absurd (by decide) cc) (fun _ => ?_)
    refine lv_iconst (v := 0) hx hb dX12_readDog_10 (by decide) ?_
    exact W.zret (v := 0) hx hb hr rfl (fun t ht hW => ⟨⟨0, (st2, sl3), rfl, ⟨hG, hF, Or.inr (⟨4, (tka B g m p), rfl, by show st2 0 10 = _; rw [hf7], by show st2 0 11 = _; rw [hf8], by omega, by unfold lDog; rw [if_pos hf6]⟩)⟩, mB.of ht hP⟩, hS.F ht⟩) hS.2.2 dX12_readDog_11
