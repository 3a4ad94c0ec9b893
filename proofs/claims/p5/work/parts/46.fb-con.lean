set_option maxHeartbeats 4000000 in
set_option maxRecDepth 100000 in
theorem f_readOf19 (l : Launch) (dC : Nat → ClassId) (dI : Nat → Nat → Nat) (ar : Nat → Nat) (cy : Nat → ClassId) (sz : Nat) (hN : MN ar) (st : Nat → Nat → Int32) (sl : Nat → Nat → Int64) (B : Nat → Nat) (g m : Nat) (p : Nat) (c : Nat → Nat) (nm : Nat → Nat → Nat) (gn : Nat) (hI : MI st) (hB : MBt B g m st) (hT : TM B g m p st sl) (hR : RN c nm st sl) (h43 : st 0 43 = nI gn) (hgn : gn < 60) : Met l yX12_readOf wsX12_readOf ({ frames := 4, cells := 0, slots := 0, locals := 91 }) (va_Pc [.ref (ar 0), .int 19] (mPre dC dI ar cy sz st sl)) (va_Qi (fun (r : Int32) (x : MT) => MG [1, 2, 3, 6, 7, 13, 14, 15, 20, 21, 22] st x.1 ∧ FM 5 st sl x.1 x.2 ∧ ((r = 1 ∧ TM B g m (tkx B g m p) x.1 x.2 ∧ x.1 0 43 = nI (gn + 1) ∧ x.1 0 46 = nI gn ∧ (∀ o, sNam B g m p (c 0) (nm 0) o = (0, (tkx B g m p), o)) ∧ x.1 0 10 = st 0 10) ∨ (∃ f : Nat, ∃ a : Nat, r = 0 ∧ x.1 0 10 = nI f ∧ x.1 0 11 = nI a ∧ 1 ≤ f ∧ (∀ o, sNam B g m p (c 0) (nm 0) o = sf f a)))) (mB dC dI ar cy) (MA ar sz)) 0 0 (MA ar sz) := by
  refine Met.ofW (cc := cX12_readOf) (maxL := 2) (ret := (some .boolean)) (by decide) rfl ?_
  intro p9 e s m9 args below meth c9 s₁ B9 hml hv
  obtain ⟨rfl, hsz, hP, hK⟩ := hv
  have hx := B9.exec
  have hb := B9.bytes
  have hr := B9.returns
  have hts := atoms_spec (ws := wsX12_readOf) B9.pre
  have hown : s.vm.findClass RX12 = some m9.cls := findClass_of_methodNamed B9.named
  subst hsz
  have hS : va_S (MA ar s.heap.size) s.heap s.heap [] := va_S.rf
  have hG : MG [1, 2, 3, 6, 7, 13, 14, 15, 20, 21, 22] st st := MG.rf hI
  have hl := lv_entry ([.ref (ar 0), .int 19]) (n := 2) (Nat.le_of_ble_eq_true rfl)
  rw [lg_entry_eq]
  generalize (lg_sl ([.ref (ar 0), .int 19]) ++ List.replicate (2 - (lg_sl ([.ref (ar 0), .int 19])).length) Slot.unset).toArray = ls at hl ⊢
  have hl : lv_has ls 2 [(0, .ref (ar 0)), (1, .int 19)] := hl
  clear hI
  have hB1 := hB.2.2.1
  have hB2 := hB.2.2.2.1
  have hF : FM 5 st sl st sl := FM.rf
  have hp9 := hT.2.2.2.2.2.2
  have hk1 := tkd_lt (B := B) (g := g) (m := m) (p := p)
  have hk2 := tkx_le (B := B) (g := g) (m := m) (p := p) hp9
  have hk3 := tka_le (B := B) (g := g) (m := m) (p := p) hp9 hB.2.2.1
  have hk4 := tkv_lt (p := p) hB hp9
  have hk5 := tkw_lt (B := B) (g := g) (m := m) (p := p)
  have hR9 := hR.2.1
  refine lv_aload_n hx hb dX12_readOf_0 rfl (lv_at hl 0 rfl) ?_
  refine lv_iload_n hx hb dX12_readOf_1 rfl (lv_at hl 1 rfl) ?_
  refine lv_bipush (v := 18) hx hb dX12_readOf_2 (by decide) ?_
  refine lv_icmp_ne (tgt := 11) hx hb dX12_readOf_4 (by decide) (fun _ => ?_) (fun cc => absurd cc (by decide))
  refine lv_iconst (v := 0) hx hb dX12_readOf_11 (by decide) ?_
  refine lv_aload_n hx hb dX12_readOf_12 rfl (lv_at hl 0 rfl) ?_
  refine va_get (D := (dC, dI)) (ci := 11) (v := .ref (ar 2)) (C := RX12) (T := TX12) (N := 47) hx hb hts ii_X12_readOf hown hK hP 0 rfl rfl 14 (by decide) (hts _ mm_X12_readOf_1) (fun _ hh => hh) rfl dX12_readOf_13 ?_
  refine lv_iload_n hx hb dX12_readOf_16 rfl (lv_at hl 1 rfl) ?_
  refine lv_bipush (v := 18) hx hb dX12_readOf_17 (by decide) ?_
  refine lv_icmp_ne (tgt := 26) hx hb dX12_readOf_19 (by decide) (fun _ => ?_) (fun cc => absurd cc (by decide))
  refine lv_iconst (v := 0) hx hb dX12_readOf_26 (by decide) ?_
  refine va_iald hx hb hK hP 2 1 rfl rfl (i := 0) (zz_in (by decide)) dX12_readOf_27 ?_
  refine zz_top (v := (nI (c 0))) (by show st 2 0 = _; rw [hR.1 0 (by decide)]) ?_
  refine va_calli (va_runV (As := [.int 0, .int (nI (c 0))]) (rest := []) ⟨hx, hb, hml, hown, hts⟩ (f_readNamed0 l dC dI ar cy _ hN st sl (c 0) B g m p c nm (by omega) hG.1 (MBt.fr hB hF) hT hR (rfl)) (cwV 2 hts gX12_readOf_X12_readNamed rfl rfl rfl (by decide +kernel) ⟨Nat.le_of_ble_eq_true rfl, Nat.le_of_ble_eq_true rfl⟩) ⟨fun a U g mk q => ⟨q.1, mPre.blind q.2⟩, va_recv hK hP (ci := 11) (q0 := 0) rfl rfl, fun U hU hW => ⟨rfl, mPre.of hP hK hU hW⟩⟩ rfl rfl hl.1 rfl (lv_room (Nat.le_of_ble_eq_true rfl)) dX12_readOf_28 ⟨Nat.le_of_ble_eq_true rfl, Nat.le_of_ble_eq_true rfl⟩) hS (fun q _ h => MA.le hS.1 q h) (MA.le hS.1) (fun r1 x t H locs ht hvm hw hB9 _ _ hS => ?_)
  have hP := mB.at ht hB9
  clear hB9 ht hvm
  obtain ⟨st2, sl3⟩ := x
  obtain ⟨hG2, hF2, hw⟩ := hw
  dsimp only at hG2 hF2 hw
  have hP : va_P (dC, dI) vwCl (mw ar cy st2 sl3) _ := hP
  have hG : MG [1, 2, 3, 6, 7, 13, 14, 15, 20, 21, 22] st st2 := hG.tr hG2 (by decide)
  have hFst2 : FM 2 st sl st2 sl3 := hF2
  have hF : FM 5 st sl st2 sl3 := hF.tr hFst2 (by omega) (by omega)
  clear hG2 hF2
  have hR : RN c nm st2 sl3 := hR.fr hFst2
  rcases hw with ⟨n4, rfl, hf5, hf6, hT, hf7, hk8⟩ | ⟨n9, n10, rfl, hf11, hf12, hf13, hf14⟩
  · have hp9 := hT.2.2.2.2.2.2
    have hk1 := tkd_lt (B := B) (g := g) (m := m) (p := (tkx B g m p))
    have hk2 := tkx_le (B := B) (g := g) (m := m) (p := (tkx B g m p)) hp9
    have hk3 := tka_le (B := B) (g := g) (m := m) (p := (tkx B g m p)) hp9 hB.2.2.1
    have hk4 := tkv_lt (p := (tkx B g m p)) hB hp9
    have hk5 := tkw_lt (B := B) (g := g) (m := m) (p := (tkx B g m p))
    refine lv_if_ne (tgt := 36) hx hb dX12_readOf_31 (by decide) (fun _ => ?_) (fun cc => absurd cc (by decide))
    refine lv_aload_n hx hb dX12_readOf_36 rfl (lv_at hl 0 rfl) ?_
    refine lv_aload_n hx hb dX12_readOf_37 rfl (lv_at hl 0 rfl) ?_
    refine lv_bipush (v := 50) hx hb dX12_readOf_38 (by decide) ?_
    refine lv_iload_n hx hb dX12_readOf_40 rfl (lv_at hl 1 rfl) ?_
    refine lv_iadd hx hb dX12_readOf_41 ?_
    refine zz_top (v := 69) (by decide) ?_
    refine lv_aload_n hx hb dX12_readOf_42 rfl (lv_at hl 0 rfl) ?_
    refine va_get (D := (dC, dI)) (ci := 11) (v := .int (st2 0 13)) (C := RX12) (T := TX12) (N := 47) hx hb hts ii_X12_readOf hown hK hP 0 rfl rfl 13 (by decide) (hts _ mm_X12_readOf_2) (fun _ hh => hh) rfl dX12_readOf_43 ?_
    refine zz_top (v := (nI n4)) (by show st2 0 13 = _; rw [hf6]) ?_
    refine lv_iconst (v := 0) hx hb dX12_readOf_46 (by decide) ?_
    refine lv_iconst (v := 0) hx hb dX12_readOf_47 (by decide) ?_
    refine va_calli (va_runV (As := [.int 69, .int (nI n4), .int 0, .int 0]) (rest := [.ref (ar 0)]) ⟨hx, hb, hml, hown, hts⟩ (f_saysOne l dC dI ar cy _ hN st2 sl3 69 (nI n4) 0 0 B g m (tkx B g m p) gn hG.1 (MBt.fr hB hF) hT (by rw [(hFst2 0 43 (by decide)).1, h43]) (by omega)) (cwV 4 hts gX12_readOf_X12_saysOne rfl rfl rfl (by decide +kernel) ⟨Nat.le_of_ble_eq_true rfl, Nat.le_of_ble_eq_true rfl⟩) ⟨fun a U g mk q => ⟨q.1, mPre.blind q.2⟩, va_recv hK hP (ci := 11) (q0 := 0) rfl rfl, fun U hU hW => ⟨rfl, mPre.of hP hK hU hW⟩⟩ rfl rfl hl.1 rfl (lv_room (Nat.le_of_ble_eq_true rfl)) dX12_readOf_48 ⟨Nat.le_of_ble_eq_true rfl, Nat.le_of_ble_eq_true rfl⟩) hS (fun q _ h => MA.le hS.1 q h) (MA.le hS.1) (fun r15 x t H locs ht hvm hw hB9 _ _ hS => ?_)
    have hP := mB.at ht hB9
    clear hB9 ht hvm
    obtain ⟨st16, sl17⟩ := x
    obtain ⟨hG2, hF2, hw⟩ := hw
    dsimp only at hG2 hF2 hw
    have hP : va_P (dC, dI) vwCl (mw ar cy st16 sl17) _ := hP
    have hG : MG [1, 2, 3, 6, 7, 13, 14, 15, 20, 21, 22] st st16 := hG.tr hG2 (by decide)
    have hFst16 : FM 5 st2 sl3 st16 sl17 := hF2
    have hF : FM 5 st sl st16 sl17 := hF.tr hFst16 (by omega) (by omega)
    clear hG2 hF2
    have hR : RN c nm st16 sl17 := hR.fr hFst16
    obtain ⟨n18, rfl, hf19, hf20, hT, hk21⟩ := hw
    have hp9 := hT.2.2.2.2.2.2
    have hk1 := tkd_lt (B := B) (g := g) (m := m) (p := (tkx B g m p))
    have hk2 := tkx_le (B := B) (g := g) (m := m) (p := (tkx B g m p)) hp9
    have hk3 := tka_le (B := B) (g := g) (m := m) (p := (tkx B g m p)) hp9 hB.2.2.1
    have hk4 := tkv_lt (p := (tkx B g m p)) hB hp9
    have hk5 := tkw_lt (B := B) (g := g) (m := m) (p := (tkx B g m p))
    refine va_put (D := (dC, dI)) (ci := 11) (v := .int (nI n18)) (ty := .int) (C := RX12) (T := TX12) (N := 47) hx hb hts ii_X12_readOf tyX12 tyX12_ok nmX12 hown hK hP (mD hN _ _ _ _) hS 0 rfl rfl 46 (by decide) (hts _ mm_X12_readOf_3) (fun _ hh => hh) rfl (by decide +kernel) rfl rfl (Nat.le_of_ble_eq_true rfl) dX12_readOf_51 (fun H locs hP _ hS => ?_)
    have hP : va_P (dC, dI) vwCl (mw ar cy (up2 st16 0 46 (nI n18)) sl17) H := hP
    obtain ⟨st22, est22⟩ : ∃ y, y = up2 st16 0 46 (nI n18) := ⟨_, rfl⟩
    have hG : MG [1, 2, 3, 6, 7, 13, 14, 15, 20, 21, 22] st st22 := by rw [est22]; exact hG.up (rn (n := n18) (by decide : mr 0 46 = 60) (by omega)) (pn (by decide : pcl 0 46 = 12) (by decide))
    rw [← est22] at hP
    have hF : FM 5 st sl st22 sl17 := by rw [est22]; exact hF.up (by decide)
    have hT : TM B g m (tkx B g m p) st22 sl17 := by rw [est22]; exact hT.up (by omega)
    have hR : RN c nm st22 sl17 := by rw [est22]; exact hR.up (by omega)
    refine lv_iconst (v := 1) hx hb dX12_readOf_54 (by decide) ?_
    exact W.zret (v := 1) hx hb hr rfl (fun t ht hW => ⟨⟨1, (st22, sl17), rfl, ⟨hG, hF, Or.inl (⟨rfl, hT, by show st22 0 43 = _; rw [est22, up2_ne (r := 0) (k := 46) (a := 0) (j := 43) _ _ (by omega), hf20], by show st22 0 46 = _; rw [est22, up2_same, hf19], fun o => sNam_y hf7, by show st22 0 10 = st 0 10; rw [est22, up2_ne (r := 0) (k := 46) (a := 0) (j := 10) _ _ (by omega), hk21, hk8]⟩)⟩, mB.of ht hP⟩, hS.F ht⟩) hS.2.2 dX12_readOf_55
  · refine lv_if_ne (tgt := 36) hx hb dX12_readOf_31 (by decide) (fun cc => absurd (by decide) cc) (fun _ => ?_)
    refine lv_iconst (v := 0) hx hb dX12_readOf_34 (by decide) ?_
    exact W.zret (v := 0) hx hb hr rfl (fun t ht hW => ⟨⟨0, (st2, sl3), rfl, ⟨hG, hF, Or.inr (⟨n9, n10, rfl, by show st2 0 10 = _; rw [hf11], by show st2 0 11 = _; rw [hf12], by omega, fun o => sNam_f hf14 hf13⟩)⟩, mB.of ht hP⟩, hS.F ht⟩) hS.2.2 dX12_readOf_35
set_option maxHeartbeats 4000000 in
set_option maxRecDepth 100000 in
theorem f_readCompare (l : Launch) (dC : Nat → ClassId) (dI : Nat → Nat → Nat) (ar : Nat → Nat) (cy : Nat → ClassId) (sz : Nat) (hN : MN ar) (st : Nat → Nat → Int32) (sl : Nat → Nat → Int64) (va : Nat) (B : Nat → Nat) (g m : Nat) (p : Nat) (c : Nat → Nat) (nm : Nat → Nat → Nat) (gn : Nat) (hlva : 20 ≤ va) (hva : va < 24) (hI : MI st) (hB : MBt B g m st) (hT : TM B g m p st sl) (hR : RN c nm st sl) (h43 : st 0 43 = nI gn) (hgn : gn < 60) : Met l yX12_readCompare wsX12_readCompare ({ frames := 3, cells := 0, slots := 0, locals := 67 }) (va_Pc [.ref (ar 0), .int (nI va)] (mPre dC dI ar cy sz st sl)) (va_Qi (fun (r : Int32) (x : MT) => MG [1, 2, 3, 6, 7, 13, 14, 15, 20, 21, 22] st x.1 ∧ FM 5 st sl x.1 x.2 ∧ ((r = 1 ∧ TM B g m (tkx B g m (tkx B g m p)) x.1 x.2 ∧ x.1 0 43 = nI (gn + 1) ∧ x.1 0 46 = nI gn ∧ (∀ o, sCmp B g m p o = (0, (tkx B g m (tkx B g m p)), o)) ∧ x.1 0 10 = st 0 10) ∨ (∃ f : Nat, ∃ a : Nat, r = 0 ∧ x.1 0 10 = nI f ∧ x.1 0 11 = nI a ∧ 1 ≤ f ∧ (∀ o, sCmp B g m p o = sf f a)))) (mB dC dI ar cy) (MA ar sz)) 0 0 (MA ar sz) := by
  refine Met.ofW (cc := cX12_readCompare) (maxL := 3) (ret := (some .boolean)) (by decide) rfl ?_
  intro p9 e s m9 args below meth c9 s₁ B9 hml hv
  obtain ⟨rfl, hsz, hP, hK⟩ := hv
  have hx := B9.exec
  have hb := B9.bytes
  have hr := B9.returns
  have hts := atoms_spec (ws := wsX12_readCompare) B9.pre
  have hown : s.vm.findClass RX12 = some m9.cls := findClass_of_methodNamed B9.named
  subst hsz
  have hS : va_S (MA ar s.heap.size) s.heap s.heap [] := va_S.rf
  have hG : MG [1, 2, 3, 6, 7, 13, 14, 15, 20, 21, 22] st st := MG.rf hI
  have hl := lv_entry ([.ref (ar 0), .int (nI va)]) (n := 3) (Nat.le_of_ble_eq_true rfl)
  rw [lg_entry_eq]
  generalize (lg_sl ([.ref (ar 0), .int (nI va)]) ++ List.replicate (3 - (lg_sl ([.ref (ar 0), .int (nI va)])).length) Slot.unset).toArray = ls at hl ⊢
  have hl : lv_has ls 3 [(0, .ref (ar 0)), (1, .int (nI va))] := hl
  clear hI
  have hB1 := hB.2.2.1
  have hB2 := hB.2.2.2.1
  have hF : FM 5 st sl st sl := FM.rf
  have hp9 := hT.2.2.2.2.2.2
  have hk1 := tkd_lt (B := B) (g := g) (m := m) (p := p)
  have hk2 := tkx_le (B := B) (g := g) (m := m) (p := p) hp9
  have hk3 := tka_le (B := B) (g := g) (m := m) (p := p) hp9 hB.2.2.1
  have hk4 := tkv_lt (p := p) hB hp9
  have hk5 := tkw_lt (B := B) (g := g) (m := m) (p := p)
  have hR9 := hR.2.1
  refine lv_aload_n hx hb dX12_readCompare_0 rfl (lv_at hl 0 rfl) ?_
  refine lv_bipush (v := 60) hx hb dX12_readCompare_1 (by decide) ?_
  refine va_calli (va_runV (As := [.int 60]) (rest := []) ⟨hx, hb, hml, hown, hts⟩ (f_isSign60 l dC dI ar cy _ hN st sl B g m p hG.1 (MBt.fr hB hF) hT) (cwV 1 hts gX12_readCompare_X12_isSign rfl rfl rfl (by decide +kernel) ⟨Nat.le_of_ble_eq_true rfl, Nat.le_of_ble_eq_true rfl⟩) ⟨fun a U g mk q => ⟨q.1, mPre.blind q.2⟩, va_recv hK hP (ci := 11) (q0 := 0) rfl rfl, fun U hU hW => ⟨rfl, mPre.of hP hK hU hW⟩⟩ rfl rfl hl.1 rfl (lv_room (Nat.le_of_ble_eq_true rfl)) dX12_readCompare_3 ⟨Nat.le_of_ble_eq_true rfl, Nat.le_of_ble_eq_true rfl⟩) hS (fun q _ h => MA.le hS.1 q h) (MA.le hS.1) (fun r1 x t H locs ht hvm hw hB9 _ _ hS => ?_)
  have hP := mB.at ht hB9
  clear hB9 ht hvm
  obtain ⟨rfl, hw⟩ := hw
  have hP : va_P (dC, dI) vwCl (mw ar cy st sl) _ := hP
  rcases hw with ⟨rfl, hf2, hf3⟩ | ⟨rfl, hf4⟩
  · refine lv_if_ne (tgt := 33) hx hb dX12_readCompare_6 (by decide) (fun _ => ?_) (fun cc => absurd cc (by decide))
    refine lv_aload_n hx hb dX12_readCompare_33 rfl (lv_at hl 0 rfl) ?_
    refine va_get (D := (dC, dI)) (ci := 11) (v := .int (st 0 9)) (C := RX12) (T := TX12) (N := 47) hx hb hts ii_X12_readCompare hown hK hP 0 rfl rfl 9 (by decide) (hts _ mm_X12_readCompare_1) (fun _ hh => hh) rfl dX12_readCompare_34 ?_
    refine zz_top (v := (nI (tkv B g p))) (by show st 0 9 = _; rw [(hT.2.2.2.2.1 (by omega))]) ?_
    refine lv_istore_n (lv' := [(2, .int (nI (tkv B g p))), (0, .ref (ar 0)), (1, .int (nI va))]) hx hb dX12_readCompare_37 rfl hl (by decide) rfl (fun ls hl => ?_)
    refine lv_aload_n hx hb dX12_readCompare_38 rfl (lv_at hl 1 rfl) ?_
    refine va_callv (va_runV (As := []) (rest := []) ⟨hx, hb, hml, hown, hts⟩ (f_go l dC dI ar cy _ hN st sl B g m (tkx B g m p) hG.1 (MBt.fr hB hF) hT.1 hk2.2) (cwV 0 hts gX12_readCompare_X12_go rfl rfl rfl (by decide +kernel) ⟨Nat.le_of_ble_eq_true rfl, Nat.le_of_ble_eq_true rfl⟩) ⟨fun a U g mk q => ⟨q.1, mPre.blind q.2⟩, va_recv hK hP (ci := 11) (q0 := 0) rfl rfl, fun U hU hW => ⟨rfl, mPre.of hP hK hU hW⟩⟩ rfl rfl hl.1 rfl (lv_room (Nat.le_of_ble_eq_true rfl)) dX12_readCompare_39 ⟨Nat.le_of_ble_eq_true rfl, Nat.le_of_ble_eq_true rfl⟩) hS (fun q _ h => MA.le hS.1 q h) (MA.le hS.1) (fun x t H locs ht hvm hw hB9 _ _ hS => ?_)
    have hP := mB.at ht hB9
    clear hB9 ht hvm
    obtain ⟨st6, sl7⟩ := x
    obtain ⟨hG2, hF2, hw⟩ := hw
    dsimp only at hG2 hF2 hw
    have hP : va_P (dC, dI) vwCl (mw ar cy st6 sl7) _ := hP
    have hG : MG [1, 2, 3, 6, 7, 13, 14, 15, 20, 21, 22] st st6 := hG.tr hG2 (by decide)
    have hFst6 : FM 1 st sl st6 sl7 := hF2
    have hF : FM 5 st sl st6 sl7 := hF.tr hFst6 (by omega) (by omega)
    clear hG2 hF2
    have hR : RN c nm st6 sl7 := hR.fr hFst6
    have hT := hw
    have hp9 := hT.2.2.2.2.2.2
    have hk1 := tkd_lt (B := B) (g := g) (m := m) (p := (tkx B g m p))
    have hk2 := tkx_le (B := B) (g := g) (m := m) (p := (tkx B g m p)) hp9
    have hk3 := tka_le (B := B) (g := g) (m := m) (p := (tkx B g m p)) hp9 hB.2.2.1
    have hk4 := tkv_lt (p := (tkx B g m p)) hB hp9
    have hk5 := tkw_lt (B := B) (g := g) (m := m) (p := (tkx B g m p))
    refine lv_aload_n hx hb dX12_readCompare_42 rfl (lv_at hl 1 rfl) ?_
    refine lv_iconst (v := 0) hx hb dX12_readCompare_43 (by decide) ?_
    refine lv_sipush (v := 999) hx hb dX12_readCompare_44 (by decide) ?_
    refine va_calli (va_runV (As := [.int 0, .int 999]) (rest := []) ⟨hx, hb, hml, hown, hts⟩ (f_readNumber l dC dI ar cy _ hN st6 sl7 0 999 B g m (tkx B g m p) (by omega) (by omega) hG.1 (MBt.fr hB hF) hT) (cwV 2 hts gX12_readCompare_X12_readNumber rfl rfl rfl (by decide +kernel) ⟨Nat.le_of_ble_eq_true rfl, Nat.le_of_ble_eq_true rfl⟩) ⟨fun a U g mk q => ⟨q.1, mPre.blind q.2⟩, va_recv hK hP (ci := 11) (q0 := 0) rfl rfl, fun U hU hW => ⟨rfl, mPre.of hP hK hU hW⟩⟩ rfl rfl hl.1 rfl (lv_room (Nat.le_of_ble_eq_true rfl)) dX12_readCompare_47 ⟨Nat.le_of_ble_eq_true rfl, Nat.le_of_ble_eq_true rfl⟩) hS (fun q _ h => MA.le hS.1 q h) (MA.le hS.1) (fun r8 x t H locs ht hvm hw hB9 _ _ hS => ?_)
    have hP := mB.at ht hB9
    clear hB9 ht hvm
    obtain ⟨st9, sl10⟩ := x
    obtain ⟨hG2, hF2, hw⟩ := hw
    dsimp only at hG2 hF2 hw
    have hP : va_P (dC, dI) vwCl (mw ar cy st9 sl10) _ := hP
    have hG : MG [1, 2, 3, 6, 7, 13, 14, 15, 20, 21, 22] st st9 := hG.tr hG2 (by decide)
    have hFst9 : FM 2 st6 sl7 st9 sl10 := hF2
    have hF : FM 5 st sl st9 sl10 := hF.tr hFst9 (by omega) (by omega)
    clear hG2 hF2
    have hR : RN c nm st9 sl10 := hR.fr hFst9
    rcases hw with ⟨rfl, hf11, hf12, hf13, hf14, hT, hf15, hk16⟩ | ⟨n17, n18, rfl, hf19, hf20, hf21, hf22⟩
    · have hp9 := hT.2.2.2.2.2.2
      have hk1 := tkd_lt (B := B) (g := g) (m := m) (p := (tkx B g m (tkx B g m p)))
      have hk2 := tkx_le (B := B) (g := g) (m := m) (p := (tkx B g m (tkx B g m p))) hp9
      have hk3 := tka_le (B := B) (g := g) (m := m) (p := (tkx B g m (tkx B g m p))) hp9 hB.2.2.1
      have hk4 := tkv_lt (p := (tkx B g m (tkx B g m p))) hB hp9
      have hk5 := tkw_lt (B := B) (g := g) (m := m) (p := (tkx B g m (tkx B g m p)))
      refine lv_if_ne (tgt := 55) hx hb dX12_readCompare_50 (by decide) (fun _ => ?_) (fun cc => absurd cc (by decide))
      refine lv_aload_n hx hb dX12_readCompare_55 rfl (lv_at hl 1 rfl) ?_
      refine lv_aload_n hx hb dX12_readCompare_56 rfl (lv_at hl 1 rfl) ?_
      refine lv_bipush (v := 50) hx hb dX12_readCompare_57 (by decide) ?_
      refine lv_iload_n hx hb dX12_readCompare_59 rfl (lv_at hl 2 rfl) ?_
      refine lv_iadd hx hb dX12_readCompare_60 ?_
      refine zz_top (v := nI (50 + va)) (nI_add 50 va) ?_
      refine lv_iconst (v := 0) hx hb dX12_readCompare_61 (by decide) ?_
      refine lv_aload_n hx hb dX12_readCompare_62 rfl (lv_at hl 1 rfl) ?_
      refine va_get (D := (dC, dI)) (ci := 11) (v := .int (st9 0 13)) (C := RX12) (T := TX12) (N := 47) hx hb hts ii_X12_readCompare hown hK hP 0 rfl rfl 13 (by decide) (hts _ mm_X12_readCompare_2) (fun _ hh => hh) rfl dX12_readCompare_63 ?_
      refine zz_top (v := (nI (tkv B g (tkx B g m p)))) (by show st9 0 13 = _; rw [hf14]) ?_
      refine lv_iload_n hx hb dX12_readCompare_66 rfl (lv_at hl 0 rfl) ?_
      refine va_calli (va_runV (As := [.int (nI (50 + va)), .int 0, .int (nI (tkv B g (tkx B g m p))), .int (nI (tkv B g p))]) (rest := [.ref (ar 0)]) ⟨hx, hb, hml, hown, hts⟩ (f_saysOne l dC dI ar cy _ hN st9 sl10 (nI (50 + va)) 0 (nI (tkv B g (tkx B g m p))) (nI (tkv B g p)) B g m (tkx B g m (tkx B g m p)) gn hG.1 (MBt.fr hB hF) hT (by rw [(hFst9 0 43 (by decide)).1, (hFst6 0 43 (by decide)).1, h43]) (by omega)) (cwV 4 hts gX12_readCompare_X12_saysOne rfl rfl rfl (by decide +kernel) ⟨Nat.le_of_ble_eq_true rfl, Nat.le_of_ble_eq_true rfl⟩) ⟨fun a U g mk q => ⟨q.1, mPre.blind q.2⟩, va_recv hK hP (ci := 11) (q0 := 0) rfl rfl, fun U hU hW => ⟨rfl, mPre.of hP hK hU hW⟩⟩ rfl rfl hl.1 rfl (lv_room (Nat.le_of_ble_eq_true rfl)) dX12_readCompare_67 ⟨Nat.le_of_ble_eq_true rfl, Nat.le_of_ble_eq_true rfl⟩) hS (fun q _ h => MA.le hS.1 q h) (MA.le hS.1) (fun r23 x t H locs ht hvm hw hB9 _ _ hS => ?_)
      have hP := mB.at ht hB9
      clear hB9 ht hvm
      obtain ⟨st24, sl25⟩ := x
      obtain ⟨hG2, hF2, hw⟩ := hw
      dsimp only at hG2 hF2 hw
      have hP : va_P (dC, dI) vwCl (mw ar cy st24 sl25) _ := hP
      have hG : MG [1, 2, 3, 6, 7, 13, 14, 15, 20, 21, 22] st st24 := hG.tr hG2 (by decide)
      have hFst24 : FM 5 st9 sl10 st24 sl25 := hF2
      have hF : FM 5 st sl st24 sl25 := hF.tr hFst24 (by omega) (by omega)
      clear hG2 hF2
      have hR : RN c nm st24 sl25 := hR.fr hFst24
      obtain ⟨n26, rfl, hf27, hf28, hT, hk29⟩ := hw
      have hp9 := hT.2.2.2.2.2.2
      have hk1 := tkd_lt (B := B) (g := g) (m := m) (p := (tkx B g m (tkx B g m p)))
      have hk2 := tkx_le (B := B) (g := g) (m := m) (p := (tkx B g m (tkx B g m p))) hp9
      have hk3 := tka_le (B := B) (g := g) (m := m) (p := (tkx B g m (tkx B g m p))) hp9 hB.2.2.1
      have hk4 := tkv_lt (p := (tkx B g m (tkx B g m p))) hB hp9
      have hk5 := tkw_lt (B := B) (g := g) (m := m) (p := (tkx B g m (tkx B g m p)))
      refine va_put (D := (dC, dI)) (ci := 11) (v := .int (nI n26)) (ty := .int) (C := RX12) (T := TX12) (N := 47) hx hb hts ii_X12_readCompare tyX12 tyX12_ok nmX12 hown hK hP (mD hN _ _ _ _) hS 0 rfl rfl 46 (by decide) (hts _ mm_X12_readCompare_3) (fun _ hh => hh) rfl (by decide +kernel) rfl rfl (Nat.le_of_ble_eq_true rfl) dX12_readCompare_70 (fun H locs hP _ hS => ?_)
      have hP : va_P (dC, dI) vwCl (mw ar cy (up2 st24 0 46 (nI n26)) sl25) H := hP
      obtain ⟨st30, est30⟩ : ∃ y, y = up2 st24 0 46 (nI n26) := ⟨_, rfl⟩
      have hG : MG [1, 2, 3, 6, 7, 13, 14, 15, 20, 21, 22] st st30 := by rw [est30]; exact hG.up (rn (n := n26) (by decide : mr 0 46 = 60) (by omega)) (pn (by decide : pcl 0 46 = 12) (by decide))
      rw [← est30] at hP
      have hF : FM 5 st sl st30 sl25 := by rw [est30]; exact hF.up (by decide)
      have hT : TM B g m (tkx B g m (tkx B g m p)) st30 sl25 := by rw [est30]; exact hT.up (by omega)
      have hR : RN c nm st30 sl25 := by rw [est30]; exact hR.up (by omega)
      refine lv_iconst (v := 1) hx hb dX12_readCompare_73 (by decide) ?_
      exact W.zret (v := 1) hx hb hr rfl (fun t ht hW => ⟨⟨1, (st30, sl25), rfl, ⟨hG, hF, Or.inl (⟨rfl, hT, by show st30 0 43 = _; rw [est30, up2_ne (r := 0) (k := 46) (a := 0) (j := 43) _ _ (by omega), hf28], by show st30 0 46 = _; rw [est30, up2_same, hf27], fun o => sCmp_y (by omega) hf15, by show st30 0 10 = st 0 10; rw [est30, up2_ne (r := 0) (k := 46) (a := 0) (j := 10) _ _ (by omega), hk29, hk16, (hFst6 0 10 (by decide)).1]⟩)⟩, mB.of ht hP⟩, hS.F ht⟩) hS.2.2 dX12_readCompare_74
    · refine lv_if_ne (tgt := 55) hx hb dX12_readCompare_50 (by decide) (fun cc => absurd (by decide) cc) (fun _ => ?_)
      refine lv_iconst (v := 0) hx hb dX12_readCompare_53 (by decide) ?_
      exact W.zret (v := 0) hx hb hr rfl (fun t ht hW => ⟨⟨0, (st9, sl10), rfl, ⟨hG, hF, Or.inr (⟨n17, n18, rfl, by show st9 0 10 = _; rw [hf19], by show st9 0 11 = _; rw [hf20], by omega, fun o => sCmp_f (by omega) hf22 hf21⟩)⟩, mB.of ht hP⟩, hS.F ht⟩) hS.2.2 dX12_readCompare_54
  · refine lv_if_ne (tgt := 33) hx hb dX12_readCompare_6 (by decide) (fun cc => absurd (by decide) cc) (fun _ => ?_)
    refine lv_aload_n hx hb dX12_readCompare_9 rfl (lv_at hl 0 rfl) ?_
    refine lv_bipush (v := 61) hx hb dX12_readCompare_10 (by decide) ?_
    refine va_calli (va_runV (As := [.int 61]) (rest := []) ⟨hx, hb, hml, hown, hts⟩ (f_isSign61 l dC dI ar cy _ hN st sl B g m p hG.1 (MBt.fr hB hF) hT) (cwV 1 hts gX12_readCompare_X12_isSign rfl rfl rfl (by decide +kernel) ⟨Nat.le_of_ble_eq_true rfl, Nat.le_of_ble_eq_true rfl⟩) ⟨fun a U g mk q => ⟨q.1, mPre.blind q.2⟩, va_recv hK hP (ci := 11) (q0 := 0) rfl rfl, fun U hU hW => ⟨rfl, mPre.of hP hK hU hW⟩⟩ rfl rfl hl.1 rfl (lv_room (Nat.le_of_ble_eq_true rfl)) dX12_readCompare_12 ⟨Nat.le_of_ble_eq_true rfl, Nat.le_of_ble_eq_true rfl⟩) hS (fun q _ h => MA.le hS.1 q h) (MA.le hS.1) (fun r31 x t H locs ht hvm hw hB9 _ _ hS => ?_)
    have hP := mB.at ht hB9
    clear hB9 ht hvm
    obtain ⟨rfl, hw⟩ := hw
    have hP : va_P (dC, dI) vwCl (mw ar cy st sl) _ := hP
    rcases hw with ⟨rfl, hf32, hf33⟩ | ⟨rfl, hf34⟩
    · refine lv_if_ne (tgt := 33) hx hb dX12_readCompare_15 (by decide) (fun _ => ?_) (fun cc => absurd cc (by decide))
      refine lv_aload_n hx hb dX12_readCompare_33 rfl (lv_at hl 0 rfl) ?_
      refine va_get (D := (dC, dI)) (ci := 11) (v := .int (st 0 9)) (C := RX12) (T := TX12) (N := 47) hx hb hts ii_X12_readCompare hown hK hP 0 rfl rfl 9 (by decide) (hts _ mm_X12_readCompare_1) (fun _ hh => hh) rfl dX12_readCompare_34 ?_
      refine zz_top (v := (nI (tkv B g p))) (by show st 0 9 = _; rw [(hT.2.2.2.2.1 (by omega))]) ?_
      refine lv_istore_n (lv' := [(2, .int (nI (tkv B g p))), (0, .ref (ar 0)), (1, .int (nI va))]) hx hb dX12_readCompare_37 rfl hl (by decide) rfl (fun ls hl => ?_)
      refine lv_aload_n hx hb dX12_readCompare_38 rfl (lv_at hl 1 rfl) ?_
      refine va_callv (va_runV (As := []) (rest := []) ⟨hx, hb, hml, hown, hts⟩ (f_go l dC dI ar cy _ hN st sl B g m (tkx B g m p) hG.1 (MBt.fr hB hF) hT.1 hk2.2) (cwV 0 hts gX12_readCompare_X12_go rfl rfl rfl (by decide +kernel) ⟨Nat.le_of_ble_eq_true rfl, Nat.le_of_ble_eq_true rfl⟩) ⟨fun a U g mk q => ⟨q.1, mPre.blind q.2⟩, va_recv hK hP (ci := 11) (q0 := 0) rfl rfl, fun U hU hW => ⟨rfl, mPre.of hP hK hU hW⟩⟩ rfl rfl hl.1 rfl (lv_room (Nat.le_of_ble_eq_true rfl)) dX12_readCompare_39 ⟨Nat.le_of_ble_eq_true rfl, Nat.le_of_ble_eq_true rfl⟩) hS (fun q _ h => MA.le hS.1 q h) (MA.le hS.1) (fun x t H locs ht hvm hw hB9 _ _ hS => ?_)
      have hP := mB.at ht hB9
      clear hB9 ht hvm
      obtain ⟨st36, sl37⟩ := x
      obtain ⟨hG2, hF2, hw⟩ := hw
      dsimp only at hG2 hF2 hw
      have hP : va_P (dC, dI) vwCl (mw ar cy st36 sl37) _ := hP
      have hG : MG [1, 2, 3, 6, 7, 13, 14, 15, 20, 21, 22] st st36 := hG.tr hG2 (by decide)
      have hFst36 : FM 1 st sl st36 sl37 := hF2
      have hF : FM 5 st sl st36 sl37 := hF.tr hFst36 (by omega) (by omega)
      clear hG2 hF2
      have hR : RN c nm st36 sl37 := hR.fr hFst36
      have hT := hw
      have hp9 := hT.2.2.2.2.2.2
      have hk1 := tkd_lt (B := B) (g := g) (m := m) (p := (tkx B g m p))
      have hk2 := tkx_le (B := B) (g := g) (m := m) (p := (tkx B g m p)) hp9
      have hk3 := tka_le (B := B) (g := g) (m := m) (p := (tkx B g m p)) hp9 hB.2.2.1
      have hk4 := tkv_lt (p := (tkx B g m p)) hB hp9
      have hk5 := tkw_lt (B := B) (g := g) (m := m) (p := (tkx B g m p))
      refine lv_aload_n hx hb dX12_readCompare_42 rfl (lv_at hl 1 rfl) ?_
      refine lv_iconst (v := 0) hx hb dX12_readCompare_43 (by decide) ?_
      refine lv_sipush (v := 999) hx hb dX12_readCompare_44 (by decide) ?_
      refine va_calli (va_runV (As := [.int 0, .int 999]) (rest := []) ⟨hx, hb, hml, hown, hts⟩ (f_readNumber l dC dI ar cy _ hN st36 sl37 0 999 B g m (tkx B g m p) (by omega) (by omega) hG.1 (MBt.fr hB hF) hT) (cwV 2 hts gX12_readCompare_X12_readNumber rfl rfl rfl (by decide +kernel) ⟨Nat.le_of_ble_eq_true rfl, Nat.le_of_ble_eq_true rfl⟩) ⟨fun a U g mk q => ⟨q.1, mPre.blind q.2⟩, va_recv hK hP (ci := 11) (q0 := 0) rfl rfl, fun U hU hW => ⟨rfl, mPre.of hP hK hU hW⟩⟩ rfl rfl hl.1 rfl (lv_room (Nat.le_of_ble_eq_true rfl)) dX12_readCompare_47 ⟨Nat.le_of_ble_eq_true rfl, Nat.le_of_ble_eq_true rfl⟩) hS (fun q _ h => MA.le hS.1 q h) (MA.le hS.1) (fun r38 x t H locs ht hvm hw hB9 _ _ hS => ?_)
      have hP := mB.at ht hB9
      clear hB9 ht hvm
      obtain ⟨st39, sl40⟩ := x
      obtain ⟨hG2, hF2, hw⟩ := hw
      dsimp only at hG2 hF2 hw
      have hP : va_P (dC, dI) vwCl (mw ar cy st39 sl40) _ := hP
      have hG : MG [1, 2, 3, 6, 7, 13, 14, 15, 20, 21, 22] st st39 := hG.tr hG2 (by decide)
      have hFst39 : FM 2 st36 sl37 st39 sl40 := hF2
      have hF : FM 5 st sl st39 sl40 := hF.tr hFst39 (by omega) (by omega)
      clear hG2 hF2
      have hR : RN c nm st39 sl40 := hR.fr hFst39
      rcases hw with ⟨rfl, hf41, hf42, hf43, hf44, hT, hf45, hk46⟩ | ⟨n47, n48, rfl, hf49, hf50, hf51, hf52⟩
      · have hp9 := hT.2.2.2.2.2.2
        have hk1 := tkd_lt (B := B) (g := g) (m := m) (p := (tkx B g m (tkx B g m p)))
        have hk2 := tkx_le (B := B) (g := g) (m := m) (p := (tkx B g m (tkx B g m p))) hp9
        have hk3 := tka_le (B := B) (g := g) (m := m) (p := (tkx B g m (tkx B g m p))) hp9 hB.2.2.1
        have hk4 := tkv_lt (p := (tkx B g m (tkx B g m p))) hB hp9
        have hk5 := tkw_lt (B := B) (g := g) (m := m) (p := (tkx B g m (tkx B g m p)))
        refine lv_if_ne (tgt := 55) hx hb dX12_readCompare_50 (by decide) (fun _ => ?_) (fun cc => absurd cc (by decide))
        refine lv_aload_n hx hb dX12_readCompare_55 rfl (lv_at hl 1 rfl) ?_
        refine lv_aload_n hx hb dX12_readCompare_56 rfl (lv_at hl 1 rfl) ?_
        refine lv_bipush (v := 50) hx hb dX12_readCompare_57 (by decide) ?_
        refine lv_iload_n hx hb dX12_readCompare_59 rfl (lv_at hl 2 rfl) ?_
        refine lv_iadd hx hb dX12_readCompare_60 ?_
        refine zz_top (v := nI (50 + va)) (nI_add 50 va) ?_
        refine lv_iconst (v := 0) hx hb dX12_readCompare_61 (by decide) ?_
        refine lv_aload_n hx hb dX12_readCompare_62 rfl (lv_at hl 1 rfl) ?_
        refine va_get (D := (dC, dI)) (ci := 11) (v := .int (st39 0 13)) (C := RX12) (T := TX12) (N := 47) hx hb hts ii_X12_readCompare hown hK hP 0 rfl rfl 13 (by decide) (hts _ mm_X12_readCompare_2) (fun _ hh => hh) rfl dX12_readCompare_63 ?_
        refine zz_top (v := (nI (tkv B g (tkx B g m p)))) (by show st39 0 13 = _; rw [hf44]) ?_
        refine lv_iload_n hx hb dX12_readCompare_66 rfl (lv_at hl 0 rfl) ?_
        refine va_calli (va_runV (As := [.int (nI (50 + va)), .int 0, .int (nI (tkv B g (tkx B g m p))), .int (nI (tkv B g p))]) (rest := [.ref (ar 0)]) ⟨hx, hb, hml, hown, hts⟩ (f_saysOne l dC dI ar cy _ hN st39 sl40 (nI (50 + va)) 0 (nI (tkv B g (tkx B g m p))) (nI (tkv B g p)) B g m (tkx B g m (tkx B g m p)) gn hG.1 (MBt.fr hB hF) hT (by rw [(hFst39 0 43 (by decide)).1, (hFst36 0 43 (by decide)).1, h43]) (by omega)) (cwV 4 hts gX12_readCompare_X12_saysOne rfl rfl rfl (by decide +kernel) ⟨Nat.le_of_ble_eq_true rfl, Nat.le_of_ble_eq_true rfl⟩) ⟨fun a U g mk q => ⟨q.1, mPre.blind q.2⟩, va_recv hK hP (ci := 11) (q0 := 0) rfl rfl, fun U hU hW => ⟨rfl, mPre.of hP hK hU hW⟩⟩ rfl rfl hl.1 rfl (lv_room (Nat.le_of_ble_eq_true rfl)) dX12_readCompare_67 ⟨Nat.le_of_ble_eq_true rfl, Nat.le_of_ble_eq_true rfl⟩) hS (fun q _ h => MA.le hS.1 q h) (MA.le hS.1) (fun r53 x t H locs ht hvm hw hB9 _ _ hS => ?_)
        have hP := mB.at ht hB9
        clear hB9 ht hvm
        obtain ⟨st54, sl55⟩ := x
        obtain ⟨hG2, hF2, hw⟩ := hw
        dsimp only at hG2 hF2 hw
        have hP : va_P (dC, dI) vwCl (mw ar cy st54 sl55) _ := hP
        have hG : MG [1, 2, 3, 6, 7, 13, 14, 15, 20, 21, 22] st st54 := hG.tr hG2 (by decide)
        have hFst54 : FM 5 st39 sl40 st54 sl55 := hF2
        have hF : FM 5 st sl st54 sl55 := hF.tr hFst54 (by omega) (by omega)
        clear hG2 hF2
        have hR : RN c nm st54 sl55 := hR.fr hFst54
        obtain ⟨n56, rfl, hf57, hf58, hT, hk59⟩ := hw
        have hp9 := hT.2.2.2.2.2.2
        have hk1 := tkd_lt (B := B) (g := g) (m := m) (p := (tkx B g m (tkx B g m p)))
        have hk2 := tkx_le (B := B) (g := g) (m := m) (p := (tkx B g m (tkx B g m p))) hp9
        have hk3 := tka_le (B := B) (g := g) (m := m) (p := (tkx B g m (tkx B g m p))) hp9 hB.2.2.1
        have hk4 := tkv_lt (p := (tkx B g m (tkx B g m p))) hB hp9
        have hk5 := tkw_lt (B := B) (g := g) (m := m) (p := (tkx B g m (tkx B g m p)))
        refine va_put (D := (dC, dI)) (ci := 11) (v := .int (nI n56)) (ty := .int) (C := RX12) (T := TX12) (N := 47) hx hb hts ii_X12_readCompare tyX12 tyX12_ok nmX12 hown hK hP (mD hN _ _ _ _) hS 0 rfl rfl 46 (by decide) (hts _ mm_X12_readCompare_3) (fun _ hh => hh) rfl (by decide +kernel) rfl rfl (Nat.le_of_ble_eq_true rfl) dX12_readCompare_70 (fun H locs hP _ hS => ?_)
        have hP : va_P (dC, dI) vwCl (mw ar cy (up2 st54 0 46 (nI n56)) sl55) H := hP
        obtain ⟨st60, est60⟩ : ∃ y, y = up2 st54 0 46 (nI n56) := ⟨_, rfl⟩
        have hG : MG [1, 2, 3, 6, 7, 13, 14, 15, 20, 21, 22] st st60 := by rw [est60]; exact hG.up (rn (n := n56) (by decide : mr 0 46 = 60) (by omega)) (pn (by decide : pcl 0 46 = 12) (by decide))
        rw [← est60] at hP
        have hF : FM 5 st sl st60 sl55 := by rw [est60]; exact hF.up (by decide)
        have hT : TM B g m (tkx B g m (tkx B g m p)) st60 sl55 := by rw [est60]; exact hT.up (by omega)
        have hR : RN c nm st60 sl55 := by rw [est60]; exact hR.up (by omega)
        refine lv_iconst (v := 1) hx hb dX12_readCompare_73 (by decide) ?_
        exact W.zret (v := 1) hx hb hr rfl (fun t ht hW => ⟨⟨1, (st60, sl55), rfl, ⟨hG, hF, Or.inl (⟨rfl, hT, by show st60 0 43 = _; rw [est60, up2_ne (r := 0) (k := 46) (a := 0) (j := 43) _ _ (by omega), hf58], by show st60 0 46 = _; rw [est60, up2_same, hf57], fun o => sCmp_y (by omega) hf45, by show st60 0 10 = st 0 10; rw [est60, up2_ne (r := 0) (k := 46) (a := 0) (j := 10) _ _ (by omega), hk59, hk46, (hFst36 0 10 (by decide)).1]⟩)⟩, mB.of ht hP⟩, hS.F ht⟩) hS.2.2 dX12_readCompare_74
      · refine lv_if_ne (tgt := 55) hx hb dX12_readCompare_50 (by decide) (fun cc => absurd (by decide) cc) (fun _ => ?_)
        refine lv_iconst (v := 0) hx hb dX12_readCompare_53 (by decide) ?_
        exact W.zret (v := 0) hx hb hr rfl (fun t ht hW => ⟨⟨0, (st39, sl40), rfl, ⟨hG, hF, Or.inr (⟨n47, n48, rfl, by show st39 0 10 = _; rw [hf49], by show st39 0 11 = _; rw [hf50], by omega, fun o => sCmp_f (by omega) hf52 hf51⟩)⟩, mB.of ht hP⟩, hS.F ht⟩) hS.2.2 dX12_readCompare_54
    · refine lv_if_ne (tgt := 33) hx hb dX12_readCompare_15 (by decide) (fun cc => absurd (by decide) cc) (fun _ => ?_)
      refine lv_aload_n hx hb dX12_readCompare_18 rfl (lv_at hl 0 rfl) ?_
      refine lv_bipush (v := 62) hx hb dX12_readCompare_19 (by decide) ?_
      refine va_calli (va_runV (As := [.int 62]) (rest := []) ⟨hx, hb, hml, hown, hts⟩ (f_isSign62 l dC dI ar cy _ hN st sl B g m p hG.1 (MBt.fr hB hF) hT) (cwV 1 hts gX12_readCompare_X12_isSign rfl rfl rfl (by decide +kernel) ⟨Nat.le_of_ble_eq_true rfl, Nat.le_of_ble_eq_true rfl⟩) ⟨fun a U g mk q => ⟨q.1, mPre.blind q.2⟩, va_recv hK hP (ci := 11) (q0 := 0) rfl rfl, fun U hU hW => ⟨rfl, mPre.of hP hK hU hW⟩⟩ rfl rfl hl.1 rfl (lv_room (Nat.le_of_ble_eq_true rfl)) dX12_readCompare_21 ⟨Nat.le_of_ble_eq_true rfl, Nat.le_of_ble_eq_true rfl⟩) hS (fun q _ h => MA.le hS.1 q h) (MA.le hS.1) (fun r61 x t H locs ht hvm hw hB9 _ _ hS => ?_)
      have hP := mB.at ht hB9
      clear hB9 ht hvm
      obtain ⟨rfl, hw⟩ := hw
      have hP : va_P (dC, dI) vwCl (mw ar cy st sl) _ := hP
      rcases hw with ⟨rfl, hf62, hf63⟩ | ⟨rfl, hf64⟩
      · refine lv_if_ne (tgt := 33) hx hb dX12_readCompare_24 (by decide) (fun _ => ?_) (fun cc => absurd cc (by decide))
        refine lv_aload_n hx hb dX12_readCompare_33 rfl (lv_at hl 0 rfl) ?_
        refine va_get (D := (dC, dI)) (ci := 11) (v := .int (st 0 9)) (C := RX12) (T := TX12) (N := 47) hx hb hts ii_X12_readCompare hown hK hP 0 rfl rfl 9 (by decide) (hts _ mm_X12_readCompare_1) (fun _ hh => hh) rfl dX12_readCompare_34 ?_
        refine zz_top (v := (nI (tkv B g p))) (by show st 0 9 = _; rw [(hT.2.2.2.2.1 (by omega))]) ?_
        refine lv_istore_n (lv' := [(2, .int (nI (tkv B g p))), (0, .ref (ar 0)), (1, .int (nI va))]) hx hb dX12_readCompare_37 rfl hl (by decide) rfl (fun ls hl => ?_)
        refine lv_aload_n hx hb dX12_readCompare_38 rfl (lv_at hl 1 rfl) ?_
        refine va_callv (va_runV (As := []) (rest := []) ⟨hx, hb, hml, hown, hts⟩ (f_go l dC dI ar cy _ hN st sl B g m (tkx B g m p) hG.1 (MBt.fr hB hF) hT.1 hk2.2) (cwV 0 hts gX12_readCompare_X12_go rfl rfl rfl (by decide +kernel) ⟨Nat.le_of_ble_eq_true rfl, Nat.le_of_ble_eq_true rfl⟩) ⟨fun a U g mk q => ⟨q.1, mPre.blind q.2⟩, va_recv hK hP (ci := 11) (q0 := 0) rfl rfl, fun U hU hW => ⟨rfl, mPre.of hP hK hU hW⟩⟩ rfl rfl hl.1 rfl (lv_room (Nat.le_of_ble_eq_true rfl)) dX12_readCompare_39 ⟨Nat.le_of_ble_eq_true rfl, Nat.le_of_ble_eq_true rfl⟩) hS (fun q _ h => MA.le hS.1 q h) (MA.le hS.1) (fun x t H locs ht hvm hw hB9 _ _ hS => ?_)
        have hP := mB.at ht hB9
        clear hB9 ht hvm
        obtain ⟨st66, sl67⟩ := x
        obtain ⟨hG2, hF2, hw⟩ := hw
        dsimp only at hG2 hF2 hw
        have hP : va_P (dC, dI) vwCl (mw ar cy st66 sl67) _ := hP
        have hG : MG [1, 2, 3, 6, 7, 13, 14, 15, 20, 21, 22] st st66 := hG.tr hG2 (by decide)
        have hFst66 : FM 1 st sl st66 sl67 := hF2
        have hF : FM 5 st sl st66 sl67 := hF.tr hFst66 (by omega) (by omega)
        clear hG2 hF2
        have hR : RN c nm st66 sl67 := hR.fr hFst66
        have hT := hw
        have hp9 := hT.2.2.2.2.2.2
        have hk1 := tkd_lt (B := B) (g := g) (m := m) (p := (tkx B g m p))
        have hk2 := tkx_le (B := B) (g := g) (m := m) (p := (tkx B g m p)) hp9
        have hk3 := tka_le (B := B) (g := g) (m := m) (p := (tkx B g m p)) hp9 hB.2.2.1
        have hk4 := tkv_lt (p := (tkx B g m p)) hB hp9
        have hk5 := tkw_lt (B := B) (g := g) (m := m) (p := (tkx B g m p))
        refine lv_aload_n hx hb dX12_readCompare_42 rfl (lv_at hl 1 rfl) ?_
        refine lv_iconst (v := 0) hx hb dX12_readCompare_43 (by decide) ?_
        refine lv_sipush (v := 999) hx hb dX12_readCompare_44 (by decide) ?_
        refine va_calli (va_runV (As := [.int 0, .int 999]) (rest := []) ⟨hx, hb, hml, hown, hts⟩ (f_readNumber l dC dI ar cy _ hN st66 sl67 0 999 B g m (tkx B g m p) (by omega) (by omega) hG.1 (MBt.fr hB hF) hT) (cwV 2 hts gX12_readCompare_X12_readNumber rfl rfl rfl (by decide +kernel) ⟨Nat.le_of_ble_eq_true rfl, Nat.le_of_ble_eq_true rfl⟩) ⟨fun a U g mk q => ⟨q.1, mPre.blind q.2⟩, va_recv hK hP (ci := 11) (q0 := 0) rfl rfl, fun U hU hW => ⟨rfl, mPre.of hP hK hU hW⟩⟩ rfl rfl hl.1 rfl (lv_room (Nat.le_of_ble_eq_true rfl)) dX12_readCompare_47 ⟨Nat.le_of_ble_eq_true rfl, Nat.le_of_ble_eq_true rfl⟩) hS (fun q _ h => MA.le hS.1 q h) (MA.le hS.1) (fun r68 x t H locs ht hvm hw hB9 _ _ hS => ?_)
        have hP := mB.at ht hB9
        clear hB9 ht hvm
        obtain ⟨st69, sl70⟩ := x
        obtain ⟨hG2, hF2, hw⟩ := hw
        dsimp only at hG2 hF2 hw
        have hP : va_P (dC, dI) vwCl (mw ar cy st69 sl70) _ := hP
        have hG : MG [1, 2, 3, 6, 7, 13, 14, 15, 20, 21, 22] st st69 := hG.tr hG2 (by decide)
        have hFst69 : FM 2 st66 sl67 st69 sl70 := hF2
        have hF : FM 5 st sl st69 sl70 := hF.tr hFst69 (by omega) (by omega)
        clear hG2 hF2
        have hR : RN c nm st69 sl70 := hR.fr hFst69
        rcases hw with ⟨rfl, hf71, hf72, hf73, hf74, hT, hf75, hk76⟩ | ⟨n77, n78, rfl, hf79, hf80, hf81, hf82⟩
        · have hp9 := hT.2.2.2.2.2.2
          have hk1 := tkd_lt (B := B) (g := g) (m := m) (p := (tkx B g m (tkx B g m p)))
          have hk2 := tkx_le (B := B) (g := g) (m := m) (p := (tkx B g m (tkx B g m p))) hp9
          have hk3 := tka_le (B := B) (g := g) (m := m) (p := (tkx B g m (tkx B g m p))) hp9 hB.2.2.1
          have hk4 := tkv_lt (p := (tkx B g m (tkx B g m p))) hB hp9
          have hk5 := tkw_lt (B := B) (g := g) (m := m) (p := (tkx B g m (tkx B g m p)))
          refine lv_if_ne (tgt := 55) hx hb dX12_readCompare_50 (by decide) (fun _ => ?_) (fun cc => absurd cc (by decide))
          refine lv_aload_n hx hb dX12_readCompare_55 rfl (lv_at hl 1 rfl) ?_
          refine lv_aload_n hx hb dX12_readCompare_56 rfl (lv_at hl 1 rfl) ?_
          refine lv_bipush (v := 50) hx hb dX12_readCompare_57 (by decide) ?_
          refine lv_iload_n hx hb dX12_readCompare_59 rfl (lv_at hl 2 rfl) ?_
          refine lv_iadd hx hb dX12_readCompare_60 ?_
          refine zz_top (v := nI (50 + va)) (nI_add 50 va) ?_
          refine lv_iconst (v := 0) hx hb dX12_readCompare_61 (by decide) ?_
          refine lv_aload_n hx hb dX12_readCompare_62 rfl (lv_at hl 1 rfl) ?_
          refine va_get (D := (dC, dI)) (ci := 11) (v := .int (st69 0 13)) (C := RX12) (T := TX12) (N := 47) hx hb hts ii_X12_readCompare hown hK hP 0 rfl rfl 13 (by decide) (hts _ mm_X12_readCompare_2) (fun _ hh => hh) rfl dX12_readCompare_63 ?_
          refine zz_top (v := (nI (tkv B g (tkx B g m p)))) (by show st69 0 13 = _; rw [hf74]) ?_
          refine lv_iload_n hx hb dX12_readCompare_66 rfl (lv_at hl 0 rfl) ?_
          refine va_calli (va_runV (As := [.int (nI (50 + va)), .int 0, .int (nI (tkv B g (tkx B g m p))), .int (nI (tkv B g p))]) (rest := [.ref (ar 0)]) ⟨hx, hb, hml, hown, hts⟩ (f_saysOne l dC dI ar cy _ hN st69 sl70 (nI (50 + va)) 0 (nI (tkv B g (tkx B g m p))) (nI (tkv B g p)) B g m (tkx B g m (tkx B g m p)) gn hG.1 (MBt.fr hB hF) hT (by rw [(hFst69 0 43 (by decide)).1, (hFst66 0 43 (by decide)).1, h43]) (by omega)) (cwV 4 hts gX12_readCompare_X12_saysOne rfl rfl rfl (by decide +kernel) ⟨Nat.le_of_ble_eq_true rfl, Nat.le_of_ble_eq_true rfl⟩) ⟨fun a U g mk q => ⟨q.1, mPre.blind q.2⟩, va_recv hK hP (ci := 11) (q0 := 0) rfl rfl, fun U hU hW => ⟨rfl, mPre.of hP hK hU hW⟩⟩ rfl rfl hl.1 rfl (lv_room (Nat.le_of_ble_eq_true rfl)) dX12_readCompare_67 ⟨Nat.le_of_ble_eq_true rfl, Nat.le_of_ble_eq_true rfl⟩) hS (fun q _ h => MA.le hS.1 q h) (MA.le hS.1) (fun r83 x t H locs ht hvm hw hB9 _ _ hS => ?_)
          have hP := mB.at ht hB9
          clear hB9 ht hvm
          obtain ⟨st84, sl85⟩ := x
          obtain ⟨hG2, hF2, hw⟩ := hw
          dsimp only at hG2 hF2 hw
          have hP : va_P (dC, dI) vwCl (mw ar cy st84 sl85) _ := hP
          have hG : MG [1, 2, 3, 6, 7, 13, 14, 15, 20, 21, 22] st st84 := hG.tr hG2 (by decide)
          have hFst84 : FM 5 st69 sl70 st84 sl85 := hF2
          have hF : FM 5 st sl st84 sl85 := hF.tr hFst84 (by omega) (by omega)
          clear hG2 hF2
          have hR : RN c nm st84 sl85 := hR.fr hFst84
          obtain ⟨n86, rfl, hf87, hf88, hT, hk89⟩ := hw
          have hp9 := hT.2.2.2.2.2.2
          have hk1 := tkd_lt (B := B) (g := g) (m := m) (p := (tkx B g m (tkx B g m p)))
          have hk2 := tkx_le (B := B) (g := g) (m := m) (p := (tkx B g m (tkx B g m p))) hp9
          have hk3 := tka_le (B := B) (g := g) (m := m) (p := (tkx B g m (tkx B g m p))) hp9 hB.2.2.1
          have hk4 := tkv_lt (p := (tkx B g m (tkx B g m p))) hB hp9
          have hk5 := tkw_lt (B := B) (g := g) (m := m) (p := (tkx B g m (tkx B g m p)))
          refine va_put (D := (dC, dI)) (ci := 11) (v := .int (nI n86)) (ty := .int) (C := RX12) (T := TX12) (N := 47) hx hb hts ii_X12_readCompare tyX12 tyX12_ok nmX12 hown hK hP (mD hN _ _ _ _) hS 0 rfl rfl 46 (by decide) (hts _ mm_X12_readCompare_3) (fun _ hh => hh) rfl (by decide +kernel) rfl rfl (Nat.le_of_ble_eq_true rfl) dX12_readCompare_70 (fun H locs hP _ hS => ?_)
          have hP : va_P (dC, dI) vwCl (mw ar cy (up2 st84 0 46 (nI n86)) sl85) H := hP
          obtain ⟨st90, est90⟩ : ∃ y, y = up2 st84 0 46 (nI n86) := ⟨_, rfl⟩
          have hG : MG [1, 2, 3, 6, 7, 13, 14, 15, 20, 21, 22] st st90 := by rw [est90]; exact hG.up (rn (n := n86) (by decide : mr 0 46 = 60) (by omega)) (pn (by decide : pcl 0 46 = 12) (by decide))
          rw [← est90] at hP
          have hF : FM 5 st sl st90 sl85 := by rw [est90]; exact hF.up (by decide)
          have hT : TM B g m (tkx B g m (tkx B g m p)) st90 sl85 := by rw [est90]; exact hT.up (by omega)
          have hR : RN c nm st90 sl85 := by rw [est90]; exact hR.up (by omega)
          refine lv_iconst (v := 1) hx hb dX12_readCompare_73 (by decide) ?_
          exact W.zret (v := 1) hx hb hr rfl (fun t ht hW => ⟨⟨1, (st90, sl85), rfl, ⟨hG, hF, Or.inl (⟨rfl, hT, by show st90 0 43 = _; rw [est90, up2_ne (r := 0) (k := 46) (a := 0) (j := 43) _ _ (by omega), hf88], by show st90 0 46 = _; rw [est90, up2_same, hf87], fun o => sCmp_y (by omega) hf75, by show st90 0 10 = st 0 10; rw [est90, up2_ne (r := 0) (k := 46) (a := 0) (j := 10) _ _ (by omega), hk89, hk76, (hFst66 0 10 (by decide)).1]⟩)⟩, mB.of ht hP⟩, hS.F ht⟩) hS.2.2 dX12_readCompare_74
        · refine lv_if_ne (tgt := 55) hx hb dX12_readCompare_50 (by decide) (fun cc => absurd (by decide) cc) (fun _ => ?_)
          refine lv_iconst (v := 0) hx hb dX12_readCompare_53 (by decide) ?_
          exact W.zret (v := 0) hx hb hr rfl (fun t ht hW => ⟨⟨0, (st69, sl70), rfl, ⟨hG, hF, Or.inr (⟨n77, n78, rfl, by show st69 0 10 = _; rw [hf79], by show st69 0 11 = _; rw [hf80], by omega, fun o => sCmp_f (by omega) hf82 hf81⟩)⟩, mB.of ht hP⟩, hS.F ht⟩) hS.2.2 dX12_readCompare_54
      · refine lv_if_ne (tgt := 33) hx hb dX12_readCompare_24 (by decide) (fun cc => absurd (by decide) cc) (fun _ => ?_)
        refine lv_aload_n hx hb dX12_readCompare_27 rfl (lv_at hl 0 rfl) ?_
        refine lv_iconst (v := 1) hx hb dX12_readCompare_28 (by decide) ?_
        refine va_calli (va_runV (As := [.int 1]) (rest := []) ⟨hx, hb, hml, hown, hts⟩ (f_bad l dC dI ar cy _ hN st sl 1 B g m p (by omega) hG.1 (MBt.fr hB hF) hT) (cwV 1 hts gX12_readCompare_X12_bad rfl rfl rfl (by decide +kernel) ⟨Nat.le_of_ble_eq_true rfl, Nat.le_of_ble_eq_true rfl⟩) ⟨fun a U g mk q => ⟨q.1, mPre.blind q.2⟩, va_recv hK hP (ci := 11) (q0 := 0) rfl rfl, fun U hU hW => ⟨rfl, mPre.of hP hK hU hW⟩⟩ rfl rfl hl.1 rfl (lv_room (Nat.le_of_ble_eq_true rfl)) dX12_readCompare_29 ⟨Nat.le_of_ble_eq_true rfl, Nat.le_of_ble_eq_true rfl⟩) hS (fun q _ h => MA.le hS.1 q h) (MA.le hS.1) (fun r91 x t H locs ht hvm hw hB9 _ _ hS => ?_)
        have hP := mB.at ht hB9
        clear hB9 ht hvm
        obtain ⟨st92, sl93⟩ := x
        obtain ⟨hG2, hF2, hw⟩ := hw
        dsimp only at hG2 hF2 hw
        have hP : va_P (dC, dI) vwCl (mw ar cy st92 sl93) _ := hP
        have hG : MG [1, 2, 3, 6, 7, 13, 14, 15, 20, 21, 22] st st92 := hG.tr hG2 (by decide)
        have hFst92 : FM 2 st sl st92 sl93 := hF2
        have hF : FM 5 st sl st92 sl93 := hF.tr hFst92 (by omega) (by omega)
        clear hG2 hF2
        have hR : RN c nm st92 sl93 := hR.fr hFst92
        obtain ⟨rfl, hf94, hf95, hT⟩ := hw
        have hp9 := hT.2.2.2.2.2.2
        have hk1 := tkd_lt (B := B) (g := g) (m := m) (p := p)
        have hk2 := tkx_le (B := B) (g := g) (m := m) (p := p) hp9
        have hk3 := tka_le (B := B) (g := g) (m := m) (p := p) hp9 hB.2.2.1
        have hk4 := tkv_lt (p := p) hB hp9
        have hk5 := tkw_lt (B := B) (g := g) (m := m) (p := p)
        exact W.zret (v := 0) hx hb hr rfl (fun t ht hW => ⟨⟨0, (st92, sl93), rfl, ⟨hG, hF, Or.inr (⟨1, (tka B g m p), rfl, by show st92 0 10 = _; rw [hf94, bdk_1], by show st92 0 11 = _; rw [hf95], by omega, fun o => sCmp_1 (by omega)⟩)⟩, mB.of ht hP⟩, hS.F ht⟩) hS.2.2 dX12_readCompare_32
set_option maxHeartbeats 4000000 in
set_option maxRecDepth 100000 in
theorem f_readSaid_8 (l : Launch) (dC : Nat → ClassId) (dI : Nat → Nat → Nat) (ar : Nat → Nat) (cy : Nat → ClassId) (sz : Nat) (hN : MN ar) (st : Nat → Nat → Int32) (sl : Nat → Nat → Int64) (B : Nat → Nat) (g m : Nat) (p : Nat) (c : Nat → Nat) (nm : Nat → Nat → Nat) (gn : Nat) (go : Nat) (hI : MI st) (hB : MBt B g m st) (hT : TM B g m p st sl) (hR : RN c nm st sl) (h43 : st 0 43 = nI gn) (h44 : st 0 44 = nI go) (h45 : st 0 45 = 8) (hgn : gn ≤ 2 * go) (hgo : go ≤ 20) : Met l yX12_readSaid wsX12_readSaid ({ frames := 3, cells := 0, slots := 0, locals := 69 }) (va_Pc [.ref (ar 0)] (mPre dC dI ar cy sz st sl)) (va_Qi (fun (r : Int32) (x : MT) => MG [1, 2, 3, 6, 7, 13, 14, 15, 20, 21, 22] st x.1 ∧ FM 6 st sl x.1 x.2 ∧ ((∃ q : Nat, ∃ n1 : Nat, ∃ o1 : Nat, ∃ t1 : Nat, r = 1 ∧ TM B g m q x.1 x.2 ∧ x.1 0 43 = nI n1 ∧ x.1 0 44 = nI o1 ∧ x.1 0 45 = 8 ∧ x.1 0 46 = nI t1 ∧ t1 < n1 ∧ n1 + 2 * go + 1 ≤ gn + 2 * o1 ∧ go + 1 ≤ o1 ∧ o1 ≤ 20 ∧ gn ≤ n1 ∧ sOne B g m c nm 0 p go = (0, q, o1) ∧ x.1 0 10 = st 0 10) ∨ (∃ f : Nat, ∃ a : Nat, r = 0 ∧ x.1 0 10 = nI f ∧ x.1 0 11 = nI a ∧ 1 ≤ f ∧ sOne B g m c nm 0 p go = sf f a ∧ x.1 0 45 = 8))) (mB dC dI ar cy) (MA ar sz)) 0 0 (MA ar sz) := by
  refine Met.ofW (cc := cX12_readSaid) (maxL := 4) (ret := (some .boolean)) (by decide) rfl ?_
  intro p9 e s m9 args below meth c9 s₁ B9 hml hv
  obtain ⟨rfl, hsz, hP, hK⟩ := hv
  have hx := B9.exec
  have hb := B9.bytes
  have hr := B9.returns
  have hts := atoms_spec (ws := wsX12_readSaid) B9.pre
  have hown : s.vm.findClass RX12 = some m9.cls := findClass_of_methodNamed B9.named
  subst hsz
  have hS : va_S (MA ar s.heap.size) s.heap s.heap [] := va_S.rf
  have hG : MG [1, 2, 3, 6, 7, 13, 14, 15, 20, 21, 22] st st := MG.rf hI
  have hl := lv_entry ([.ref (ar 0)]) (n := 4) (Nat.le_of_ble_eq_true rfl)
  rw [lg_entry_eq]
  generalize (lg_sl ([.ref (ar 0)]) ++ List.replicate (4 - (lg_sl ([.ref (ar 0)])).length) Slot.unset).toArray = ls at hl ⊢
  have hl : lv_has ls 4 [(0, .ref (ar 0))] := hl
  clear hI
  have hB1 := hB.2.2.1
  have hB2 := hB.2.2.2.1
  have hF : FM 6 st sl st sl := FM.rf
  have hp9 := hT.2.2.2.2.2.2
  have hk1 := tkd_lt (B := B) (g := g) (m := m) (p := p)
  have hk2 := tkx_le (B := B) (g := g) (m := m) (p := p) hp9
  have hk3 := tka_le (B := B) (g := g) (m := m) (p := p) hp9 hB.2.2.1
  have hk4 := tkv_lt (p := p) hB hp9
  have hk5 := tkw_lt (B := B) (g := g) (m := m) (p := p)
  have hR9 := hR.2.1
  refine lv_aload_n hx hb dX12_readSaid_0 rfl (lv_at hl 0 rfl) ?_
  refine lv_bipush (v := 40) hx hb dX12_readSaid_1 (by decide) ?_
  refine va_calli (va_runV (As := [.int 40]) (rest := []) ⟨hx, hb, hml, hown, hts⟩ (f_isSign40 l dC dI ar cy _ hN st sl B g m p hG.1 (MBt.fr hB hF) hT) (cwV 1 hts gX12_readSaid_X12_isSign rfl rfl rfl (by decide +kernel) ⟨Nat.le_of_ble_eq_true rfl, Nat.le_of_ble_eq_true rfl⟩) ⟨fun a U g mk q => ⟨q.1, mPre.blind q.2⟩, va_recv hK hP (ci := 11) (q0 := 0) rfl rfl, fun U hU hW => ⟨rfl, mPre.of hP hK hU hW⟩⟩ rfl rfl hl.1 rfl (lv_room (Nat.le_of_ble_eq_true rfl)) dX12_readSaid_3 ⟨Nat.le_of_ble_eq_true rfl, Nat.le_of_ble_eq_true rfl⟩) hS (fun q _ h => MA.le hS.1 q h) (MA.le hS.1) (fun r1 x t H locs ht hvm hw hB9 _ _ hS => ?_)
  have hP := mB.at ht hB9
  clear hB9 ht hvm
  obtain ⟨rfl, hw⟩ := hw
  have hP : va_P (dC, dI) vwCl (mw ar cy st sl) _ := hP
  rcases hw with ⟨rfl, hf2, hf3⟩ | ⟨rfl, hf4⟩
  · refine lv_istore_n (lv' := [(1, .int 1), (0, .ref (ar 0))]) hx hb dX12_readSaid_6 rfl hl (by decide) rfl (fun ls hl => ?_)
    refine lv_bipush (v := 15) hx hb dX12_readSaid_7 (by decide) ?_
    refine lv_istore_n (lv' := [(2, .int 15), (1, .int 1), (0, .ref (ar 0))]) hx hb dX12_readSaid_9 rfl hl (by decide) rfl (fun ls hl => ?_)
    refine zz_wf (fun n stk H locs ls => ∃ k5 : Nat, n = 25 - k5 ∧ 15 ≤ k5 ∧ k5 < 25 ∧ (∀ i, 15 ≤ i → i < k5 → ¬ tkw B g m p = i) ∧ va_P (dC, dI) vwCl (mw ar cy st sl) H ∧ va_S (MA ar s.heap.size) s.heap H locs ∧ lv_has ls 4 [(2, .int (nI k5)), (1, .int 1), (0, .ref (ar 0))] ∧ stk = []) ?_ (25 - 15) _ _ _ _ ⟨15, rfl, by omega, by omega, fun i h1 h2 => absurd h1 (by omega), hP, hS, lv_sub hl [0, 1, 2] rfl, rfl⟩
    rintro nn stk H locs ls ⟨k5, hm8, hv6_0, hv7_1, hv8_0, hP, hS, hl, rfl⟩ ih9
    refine lv_iload_n hx hb dX12_readSaid_10 rfl (lv_at hl 0 rfl) ?_
    refine lv_bipush (v := 23) hx hb dX12_readSaid_11 (by decide) ?_
    refine lv_icmp_gt (tgt := 30) hx hb dX12_readSaid_13 (by decide) (fun c1 => ?_) (fun c1 => ?_)
    · have c1 : 23 < k5 := (nI_ltI (a := 23) (b := k5) (by omega) (by omega)).mp c1
      refine lv_iload_n hx hb dX12_readSaid_30 rfl (lv_at hl 1 rfl) ?_
      refine lv_if_ne (tgt := 46) hx hb dX12_readSaid_31 (by decide) (fun _ => ?_) (fun cc => absurd cc (by decide))
      refine lv_aload_n hx hb dX12_readSaid_46 rfl (lv_at hl 2 rfl) ?_
      refine va_get (D := (dC, dI)) (ci := 11) (v := .int (st 0 44)) (C := RX12) (T := TX12) (N := 47) hx hb hts ii_X12_readSaid hown hK hP 0 rfl rfl 44 (by decide) (hts _ mm_X12_readSaid_1) (fun _ hh => hh) rfl dX12_readSaid_47 ?_
      refine zz_top (v := (nI go)) (by show st 0 44 = _; rw [h44]) ?_
      refine lv_bipush (v := 20) hx hb dX12_readSaid_50 (by decide) ?_
      refine lv_icmp_eq (tgt := 64) hx hb dX12_readSaid_52 (by decide) (fun c3 => ?_) (fun c3 => ?_)
      · have c3 : go = 20 := (nI_eq (a := go) (b := 20) (by omega) (by omega)).mp c3
        refine lv_aload_n hx hb dX12_readSaid_64 rfl (lv_at hl 2 rfl) ?_
        refine lv_iconst (v := 4) hx hb dX12_readSaid_65 (by decide) ?_
        refine va_calli (va_runV (As := [.int 4]) (rest := []) ⟨hx, hb, hml, hown, hts⟩ (f_bad l dC dI ar cy _ hN st sl 4 B g m p (by omega) hG.1 (MBt.fr hB hF) hT) (cwV 1 hts gX12_readSaid_X12_bad rfl rfl rfl (by decide +kernel) ⟨Nat.le_of_ble_eq_true rfl, Nat.le_of_ble_eq_true rfl⟩) ⟨fun a U g mk q => ⟨q.1, mPre.blind q.2⟩, va_recv hK hP (ci := 11) (q0 := 0) rfl rfl, fun U hU hW => ⟨rfl, mPre.of hP hK hU hW⟩⟩ rfl rfl hl.1 rfl (lv_room (Nat.le_of_ble_eq_true rfl)) dX12_readSaid_66 ⟨Nat.le_of_ble_eq_true rfl, Nat.le_of_ble_eq_true rfl⟩) hS (fun q _ h => MA.le hS.1 q h) (MA.le hS.1) (fun r10 x t H locs ht hvm hw hB9 _ _ hS => ?_)
        have hP := mB.at ht hB9
        clear hB9 ht hvm
        obtain ⟨st11, sl12⟩ := x
        obtain ⟨hG2, hF2, hw⟩ := hw
        dsimp only at hG2 hF2 hw
        have hP : va_P (dC, dI) vwCl (mw ar cy st11 sl12) _ := hP
        have hG : MG [1, 2, 3, 6, 7, 13, 14, 15, 20, 21, 22] st st11 := hG.tr hG2 (by decide)
        have hFst11 : FM 2 st sl st11 sl12 := hF2
        have hF : FM 6 st sl st11 sl12 := hF.tr hFst11 (by omega) (by omega)
        clear hG2 hF2
        have hR : RN c nm st11 sl12 := hR.fr hFst11
        obtain ⟨rfl, hf13, hf14, hT⟩ := hw
        have hp9 := hT.2.2.2.2.2.2
        have hk1 := tkd_lt (B := B) (g := g) (m := m) (p := p)
        have hk2 := tkx_le (B := B) (g := g) (m := m) (p := p) hp9
        have hk3 := tka_le (B := B) (g := g) (m := m) (p := p) hp9 hB.2.2.1
        have hk4 := tkv_lt (p := p) hB hp9
        have hk5 := tkw_lt (B := B) (g := g) (m := m) (p := p)
        exact W.zret (v := 0) hx hb hr rfl (fun t ht hW => ⟨⟨0, (st11, sl12), rfl, ⟨hG, hF, Or.inr (⟨4, (tka B g m p), rfl, by show st11 0 10 = _; rw [hf13, bdk_n (by have h9 := @tkw_d B g m p; omega)], by show st11 0 11 = _; rw [hf14], by omega, sO_4 (Or.inl ⟨hf2, hf3⟩) (Or.inl rfl), by show st11 0 45 = _; rw [(hFst11 0 45 (by decide)).1, h45]⟩)⟩, mB.of ht hP⟩, hS.F ht⟩) hS.2.2 dX12_readSaid_69
      · have c3 : ¬ go = 20 := fun hh => c3 ((nI_eq (a := go) (b := 20) (by omega) (by omega)).mpr hh)
        refine lv_aload_n hx hb dX12_readSaid_55 rfl (lv_at hl 2 rfl) ?_
        refine va_get (D := (dC, dI)) (ci := 11) (v := .int (st 0 45)) (C := RX12) (T := TX12) (N := 47) hx hb hts ii_X12_readSaid hown hK hP 0 rfl rfl 45 (by decide) (hts _ mm_X12_readSaid_2) (fun _ hh => hh) rfl dX12_readSaid_56 ?_
        refine zz_top (v := 8) (by show st 0 45 = _; rw [h45]) ?_
        refine lv_bipush (v := 8) hx hb dX12_readSaid_59 (by decide) ?_
        refine lv_icmp_ne (tgt := 70) hx hb dX12_readSaid_61 (by decide) (fun cc => absurd (by decide) cc) (fun _ => ?_)
        refine lv_aload_n hx hb dX12_readSaid_64 rfl (lv_at hl 2 rfl) ?_
        refine lv_iconst (v := 4) hx hb dX12_readSaid_65 (by decide) ?_
        refine va_calli (va_runV (As := [.int 4]) (rest := []) ⟨hx, hb, hml, hown, hts⟩ (f_bad l dC dI ar cy _ hN st sl 4 B g m p (by omega) hG.1 (MBt.fr hB hF) hT) (cwV 1 hts gX12_readSaid_X12_bad rfl rfl rfl (by decide +kernel) ⟨Nat.le_of_ble_eq_true rfl, Nat.le_of_ble_eq_true rfl⟩) ⟨fun a U g mk q => ⟨q.1, mPre.blind q.2⟩, va_recv hK hP (ci := 11) (q0 := 0) rfl rfl, fun U hU hW => ⟨rfl, mPre.of hP hK hU hW⟩⟩ rfl rfl hl.1 rfl (lv_room (Nat.le_of_ble_eq_true rfl)) dX12_readSaid_66 ⟨Nat.le_of_ble_eq_true rfl, Nat.le_of_ble_eq_true rfl⟩) hS (fun q _ h => MA.le hS.1 q h) (MA.le hS.1) (fun r15 x t H locs ht hvm hw hB9 _ _ hS => ?_)
        have hP := mB.at ht hB9
        clear hB9 ht hvm
        obtain ⟨st16, sl17⟩ := x
        obtain ⟨hG2, hF2, hw⟩ := hw
        dsimp only at hG2 hF2 hw
        have hP : va_P (dC, dI) vwCl (mw ar cy st16 sl17) _ := hP
        have hG : MG [1, 2, 3, 6, 7, 13, 14, 15, 20, 21, 22] st st16 := hG.tr hG2 (by decide)
        have hFst16 : FM 2 st sl st16 sl17 := hF2
        have hF : FM 6 st sl st16 sl17 := hF.tr hFst16 (by omega) (by omega)
        clear hG2 hF2
        have hR : RN c nm st16 sl17 := hR.fr hFst16
        obtain ⟨rfl, hf18, hf19, hT⟩ := hw
        have hp9 := hT.2.2.2.2.2.2
        have hk1 := tkd_lt (B := B) (g := g) (m := m) (p := p)
        have hk2 := tkx_le (B := B) (g := g) (m := m) (p := p) hp9
        have hk3 := tka_le (B := B) (g := g) (m := m) (p := p) hp9 hB.2.2.1
        have hk4 := tkv_lt (p := p) hB hp9
        have hk5 := tkw_lt (B := B) (g := g) (m := m) (p := p)
        exact W.zret (v := 0) hx hb hr rfl (fun t ht hW => ⟨⟨0, (st16, sl17), rfl, ⟨hG, hF, Or.inr (⟨4, (tka B g m p), rfl, by show st16 0 10 = _; rw [hf18, bdk_n (by have h9 := @tkw_d B g m p; omega)], by show st16 0 11 = _; rw [hf19], by omega, sO_4 (Or.inl ⟨hf2, hf3⟩) (Or.inl rfl), by show st16 0 45 = _; rw [(hFst16 0 45 (by decide)).1, h45]⟩)⟩, mB.of ht hP⟩, hS.F ht⟩) hS.2.2 dX12_readSaid_69
    · have c1 : ¬ 23 < k5 := fun hh => c1 ((nI_ltI (a := 23) (b := k5) (by omega) (by omega)).mpr hh)
      refine lv_aload_n hx hb dX12_readSaid_16 rfl (lv_at hl 2 rfl) ?_
      refine lv_iload_n hx hb dX12_readSaid_17 rfl (lv_at hl 0 rfl) ?_
      refine va_calli (va_runV (As := [.int (nI k5)]) (rest := []) ⟨hx, hb, hml, hown, hts⟩ (f_isWordN l dC dI ar cy _ hN st sl k5 B g m p (by omega) (by omega) hG.1 (MBt.fr hB hF) hT) (cwV 1 hts gX12_readSaid_X12_isWord rfl rfl rfl (by decide +kernel) ⟨Nat.le_of_ble_eq_true rfl, Nat.le_of_ble_eq_true rfl⟩) ⟨fun a U g mk q => ⟨q.1, mPre.blind q.2⟩, va_recv hK hP (ci := 11) (q0 := 0) rfl rfl, fun U hU hW => ⟨rfl, mPre.of hP hK hU hW⟩⟩ rfl rfl hl.1 rfl (lv_room (Nat.le_of_ble_eq_true rfl)) dX12_readSaid_18 ⟨Nat.le_of_ble_eq_true rfl, Nat.le_of_ble_eq_true rfl⟩) hS (fun q _ h => MA.le hS.1 q h) (MA.le hS.1) (fun r20 x t H locs ht hvm hw hB9 _ _ hS => ?_)
      have hP := mB.at ht hB9
      clear hB9 ht hvm
      obtain ⟨rfl, hw⟩ := hw
      have hP : va_P (dC, dI) vwCl (mw ar cy st sl) _ := hP
      rcases hw with ⟨rfl, hf21⟩ | ⟨rfl, hf22⟩
      · refine lv_if_ne (tgt := 30) hx hb dX12_readSaid_21 (by decide) (fun _ => ?_) (fun cc => absurd cc (by decide))
        refine lv_iload_n hx hb dX12_readSaid_30 rfl (lv_at hl 1 rfl) ?_
        refine lv_if_ne (tgt := 46) hx hb dX12_readSaid_31 (by decide) (fun _ => ?_) (fun cc => absurd cc (by decide))
        refine lv_aload_n hx hb dX12_readSaid_46 rfl (lv_at hl 2 rfl) ?_
        refine va_get (D := (dC, dI)) (ci := 11) (v := .int (st 0 44)) (C := RX12) (T := TX12) (N := 47) hx hb hts ii_X12_readSaid hown hK hP 0 rfl rfl 44 (by decide) (hts _ mm_X12_readSaid_1) (fun _ hh => hh) rfl dX12_readSaid_47 ?_
        refine zz_top (v := (nI go)) (by show st 0 44 = _; rw [h44]) ?_
        refine lv_bipush (v := 20) hx hb dX12_readSaid_50 (by decide) ?_
        refine lv_icmp_eq (tgt := 64) hx hb dX12_readSaid_52 (by decide) (fun c7 => ?_) (fun c7 => ?_)
        · have c7 : go = 20 := (nI_eq (a := go) (b := 20) (by omega) (by omega)).mp c7
          refine lv_aload_n hx hb dX12_readSaid_64 rfl (lv_at hl 2 rfl) ?_
          refine lv_iconst (v := 4) hx hb dX12_readSaid_65 (by decide) ?_
          refine va_calli (va_runV (As := [.int 4]) (rest := []) ⟨hx, hb, hml, hown, hts⟩ (f_bad l dC dI ar cy _ hN st sl 4 B g m p (by omega) hG.1 (MBt.fr hB hF) hT) (cwV 1 hts gX12_readSaid_X12_bad rfl rfl rfl (by decide +kernel) ⟨Nat.le_of_ble_eq_true rfl, Nat.le_of_ble_eq_true rfl⟩) ⟨fun a U g mk q => ⟨q.1, mPre.blind q.2⟩, va_recv hK hP (ci := 11) (q0 := 0) rfl rfl, fun U hU hW => ⟨rfl, mPre.of hP hK hU hW⟩⟩ rfl rfl hl.1 rfl (lv_room (Nat.le_of_ble_eq_true rfl)) dX12_readSaid_66 ⟨Nat.le_of_ble_eq_true rfl, Nat.le_of_ble_eq_true rfl⟩) hS (fun q _ h => MA.le hS.1 q h) (MA.le hS.1) (fun r23 x t H locs ht hvm hw hB9 _ _ hS => ?_)
          have hP := mB.at ht hB9
          clear hB9 ht hvm
          obtain ⟨st24, sl25⟩ := x
          obtain ⟨hG2, hF2, hw⟩ := hw
          dsimp only at hG2 hF2 hw
          have hP : va_P (dC, dI) vwCl (mw ar cy st24 sl25) _ := hP
          have hG : MG [1, 2, 3, 6, 7, 13, 14, 15, 20, 21, 22] st st24 := hG.tr hG2 (by decide)
          have hFst24 : FM 2 st sl st24 sl25 := hF2
          have hF : FM 6 st sl st24 sl25 := hF.tr hFst24 (by omega) (by omega)
          clear hG2 hF2
          have hR : RN c nm st24 sl25 := hR.fr hFst24
          obtain ⟨rfl, hf26, hf27, hT⟩ := hw
          have hp9 := hT.2.2.2.2.2.2
          have hk1 := tkd_lt (B := B) (g := g) (m := m) (p := p)
          have hk2 := tkx_le (B := B) (g := g) (m := m) (p := p) hp9
          have hk3 := tka_le (B := B) (g := g) (m := m) (p := p) hp9 hB.2.2.1
          have hk4 := tkv_lt (p := p) hB hp9
          have hk5 := tkw_lt (B := B) (g := g) (m := m) (p := p)
          exact W.zret (v := 0) hx hb hr rfl (fun t ht hW => ⟨⟨0, (st24, sl25), rfl, ⟨hG, hF, Or.inr (⟨4, (tka B g m p), rfl, by show st24 0 10 = _; rw [hf26, bdk_n (by have h9 := @tkw_d B g m p; omega)], by show st24 0 11 = _; rw [hf27], by omega, sO_4 (Or.inl ⟨hf2, hf3⟩) (Or.inl rfl), by show st24 0 45 = _; rw [(hFst24 0 45 (by decide)).1, h45]⟩)⟩, mB.of ht hP⟩, hS.F ht⟩) hS.2.2 dX12_readSaid_69
        · have c7 : ¬ go = 20 := fun hh => c7 ((nI_eq (a := go) (b := 20) (by omega) (by omega)).mpr hh)
          refine lv_aload_n hx hb dX12_readSaid_55 rfl (lv_at hl 2 rfl) ?_
          refine va_get (D := (dC, dI)) (ci := 11) (v := .int (st 0 45)) (C := RX12) (T := TX12) (N := 47) hx hb hts ii_X12_readSaid hown hK hP 0 rfl rfl 45 (by decide) (hts _ mm_X12_readSaid_2) (fun _ hh => hh) rfl dX12_readSaid_56 ?_
          refine zz_top (v := 8) (by show st 0 45 = _; rw [h45]) ?_
          refine lv_bipush (v := 8) hx hb dX12_readSaid_59 (by decide) ?_
          refine lv_icmp_ne (tgt := 70) hx hb dX12_readSaid_61 (by decide) (fun cc => absurd (by decide) cc) (fun _ => ?_)
          refine lv_aload_n hx hb dX12_readSaid_64 rfl (lv_at hl 2 rfl) ?_
          refine lv_iconst (v := 4) hx hb dX12_readSaid_65 (by decide) ?_
          refine va_calli (va_runV (As := [.int 4]) (rest := []) ⟨hx, hb, hml, hown, hts⟩ (f_bad l dC dI ar cy _ hN st sl 4 B g m p (by omega) hG.1 (MBt.fr hB hF) hT) (cwV 1 hts gX12_readSaid_X12_bad rfl rfl rfl (by decide +kernel) ⟨Nat.le_of_ble_eq_true rfl, Nat.le_of_ble_eq_true rfl⟩) ⟨fun a U g mk q => ⟨q.1, mPre.blind q.2⟩, va_recv hK hP (ci := 11) (q0 := 0) rfl rfl, fun U hU hW => ⟨rfl, mPre.of hP hK hU hW⟩⟩ rfl rfl hl.1 rfl (lv_room (Nat.le_of_ble_eq_true rfl)) dX12_readSaid_66 ⟨Nat.le_of_ble_eq_true rfl, Nat.le_of_ble_eq_true rfl⟩) hS (fun q _ h => MA.le hS.1 q h) (MA.le hS.1) (fun r28 x t H locs ht hvm hw hB9 _ _ hS => ?_)
          have hP := mB.at ht hB9
          clear hB9 ht hvm
          obtain ⟨st29, sl30⟩ := x
          obtain ⟨hG2, hF2, hw⟩ := hw
          dsimp only at hG2 hF2 hw
          have hP : va_P (dC, dI) vwCl (mw ar cy st29 sl30) _ := hP
          have hG : MG [1, 2, 3, 6, 7, 13, 14, 15, 20, 21, 22] st st29 := hG.tr hG2 (by decide)
          have hFst29 : FM 2 st sl st29 sl30 := hF2
          have hF : FM 6 st sl st29 sl30 := hF.tr hFst29 (by omega) (by omega)
          clear hG2 hF2
          have hR : RN c nm st29 sl30 := hR.fr hFst29
          obtain ⟨rfl, hf31, hf32, hT⟩ := hw
          have hp9 := hT.2.2.2.2.2.2
          have hk1 := tkd_lt (B := B) (g := g) (m := m) (p := p)
          have hk2 := tkx_le (B := B) (g := g) (m := m) (p := p) hp9
          have hk3 := tka_le (B := B) (g := g) (m := m) (p := p) hp9 hB.2.2.1
          have hk4 := tkv_lt (p := p) hB hp9
          have hk5 := tkw_lt (B := B) (g := g) (m := m) (p := p)
          exact W.zret (v := 0) hx hb hr rfl (fun t ht hW => ⟨⟨0, (st29, sl30), rfl, ⟨hG, hF, Or.inr (⟨4, (tka B g m p), rfl, by show st29 0 10 = _; rw [hf31, bdk_n (by have h9 := @tkw_d B g m p; omega)], by show st29 0 11 = _; rw [hf32], by omega, sO_4 (Or.inl ⟨hf2, hf3⟩) (Or.inl rfl), by show st29 0 45 = _; rw [(hFst29 0 45 (by decide)).1, h45]⟩)⟩, mB.of ht hP⟩, hS.F ht⟩) hS.2.2 dX12_readSaid_69
      · refine lv_if_ne (tgt := 30) hx hb dX12_readSaid_21 (by decide) (fun cc => absurd (by decide) cc) (fun _ => ?_)
        refine lv_iinc (v := (nI (k5 + 1))) (lv' := [(2, .int (nI (k5 + 1))), (1, .int 1), (0, .ref (ar 0))]) hx hb dX12_readSaid_24 hl (k := 0) rfl (nI_add k5 1) (by decide) rfl (fun ls hl => ?_)
        refine lv_goto (tgt := 10) hx hb dX12_readSaid_27 (by decide) ?_
        exact ih9 (25 - (k5 + 1)) _ _ _ _ (by omega) ⟨(k5 + 1), rfl, by omega, by omega, fun i h1 h2 hz => if h9 : i = k5 then (by omega) else hv8_0 i h1 (by omega) hz, hP, hS, lv_sub hl [0, 1, 2] rfl, rfl⟩
  · refine lv_istore_n (lv' := [(1, .int 0), (0, .ref (ar 0))]) hx hb dX12_readSaid_6 rfl hl (by decide) rfl (fun ls hl => ?_)
    refine lv_bipush (v := 15) hx hb dX12_readSaid_7 (by decide) ?_
    refine lv_istore_n (lv' := [(2, .int 15), (1, .int 0), (0, .ref (ar 0))]) hx hb dX12_readSaid_9 rfl hl (by decide) rfl (fun ls hl => ?_)
    refine zz_wf (fun n stk H locs ls => ∃ k33 : Nat, n = 25 - k33 ∧ 15 ≤ k33 ∧ k33 < 25 ∧ (∀ i, 15 ≤ i → i < k33 → ¬ tkw B g m p = i) ∧ va_P (dC, dI) vwCl (mw ar cy st sl) H ∧ va_S (MA ar s.heap.size) s.heap H locs ∧ lv_has ls 4 [(2, .int (nI k33)), (1, .int 0), (0, .ref (ar 0))] ∧ stk = []) ?_ (25 - 15) _ _ _ _ ⟨15, rfl, by omega, by omega, fun i h1 h2 => absurd h1 (by omega), hP, hS, lv_sub hl [0, 1, 2] rfl, rfl⟩
    rintro nn stk H locs ls ⟨k33, hm36, hv34_0, hv35_1, hv36_0, hP, hS, hl, rfl⟩ ih37
    refine lv_iload_n hx hb dX12_readSaid_10 rfl (lv_at hl 0 rfl) ?_
    refine lv_bipush (v := 23) hx hb dX12_readSaid_11 (by decide) ?_
    refine lv_icmp_gt (tgt := 30) hx hb dX12_readSaid_13 (by decide) (fun c10 => ?_) (fun c10 => ?_)
    · have c10 : 23 < k33 := (nI_ltI (a := 23) (b := k33) (by omega) (by omega)).mp c10
      refine lv_iload_n hx hb dX12_readSaid_30 rfl (lv_at hl 1 rfl) ?_
      refine lv_if_ne (tgt := 46) hx hb dX12_readSaid_31 (by decide) (fun cc => absurd (by decide) cc) (fun _ => ?_)
      refine lv_iload_n hx hb dX12_readSaid_34 rfl (lv_at hl 0 rfl) ?_
      refine lv_bipush (v := 23) hx hb dX12_readSaid_35 (by decide) ?_
      refine lv_icmp_le (tgt := 46) hx hb dX12_readSaid_37 (by decide) (fun cc => absurd ((nI_leI (a := k33) (b := 23) (by omega) (by omega)).mp cc) (by omega)) (fun _ => ?_)
      refine lv_aload_n hx hb dX12_readSaid_40 rfl (lv_at hl 2 rfl) ?_
      refine lv_iconst (v := 1) hx hb dX12_readSaid_41 (by decide) ?_
      refine va_calli (va_runV (As := [.int 1]) (rest := []) ⟨hx, hb, hml, hown, hts⟩ (f_bad l dC dI ar cy _ hN st sl 1 B g m p (by omega) hG.1 (MBt.fr hB hF) hT) (cwV 1 hts gX12_readSaid_X12_bad rfl rfl rfl (by decide +kernel) ⟨Nat.le_of_ble_eq_true rfl, Nat.le_of_ble_eq_true rfl⟩) ⟨fun a U g mk q => ⟨q.1, mPre.blind q.2⟩, va_recv hK hP (ci := 11) (q0 := 0) rfl rfl, fun U hU hW => ⟨rfl, mPre.of hP hK hU hW⟩⟩ rfl rfl hl.1 rfl (lv_room (Nat.le_of_ble_eq_true rfl)) dX12_readSaid_42 ⟨Nat.le_of_ble_eq_true rfl, Nat.le_of_ble_eq_true rfl⟩) hS (fun q _ h => MA.le hS.1 q h) (MA.le hS.1) (fun r38 x t H locs ht hvm hw hB9 _ _ hS => ?_)
      have hP := mB.at ht hB9
      clear hB9 ht hvm
      obtain ⟨st39, sl40⟩ := x
      obtain ⟨hG2, hF2, hw⟩ := hw
      dsimp only at hG2 hF2 hw
      have hP : va_P (dC, dI) vwCl (mw ar cy st39 sl40) _ := hP
      have hG : MG [1, 2, 3, 6, 7, 13, 14, 15, 20, 21, 22] st st39 := hG.tr hG2 (by decide)
      have hFst39 : FM 2 st sl st39 sl40 := hF2
      have hF : FM 6 st sl st39 sl40 := hF.tr hFst39 (by omega) (by omega)
      clear hG2 hF2
      have hR : RN c nm st39 sl40 := hR.fr hFst39
      obtain ⟨rfl, hf41, hf42, hT⟩ := hw
      have hp9 := hT.2.2.2.2.2.2
      have hk1 := tkd_lt (B := B) (g := g) (m := m) (p := p)
      have hk2 := tkx_le (B := B) (g := g) (m := m) (p := p) hp9
      have hk3 := tka_le (B := B) (g := g) (m := m) (p := p) hp9 hB.2.2.1
      have hk4 := tkv_lt (p := p) hB hp9
      have hk5 := tkw_lt (B := B) (g := g) (m := m) (p := p)
      exact W.zret (v := 0) hx hb hr rfl (fun t ht hW => ⟨⟨0, (st39, sl40), rfl, ⟨hG, hF, Or.inr (⟨1, (tka B g m p), rfl, by show st39 0 10 = _; rw [hf41, bdk_1], by show st39 0 11 = _; rw [hf42], by omega, sO_1 (fun z9 => z9.elim hf4 (fun z8 => hv36_0 _ z8.1 (by omega) rfl)), by show st39 0 45 = _; rw [(hFst39 0 45 (by decide)).1, h45]⟩)⟩, mB.of ht hP⟩, hS.F ht⟩) hS.2.2 dX12_readSaid_45
    · have c10 : ¬ 23 < k33 := fun hh => c10 ((nI_ltI (a := 23) (b := k33) (by omega) (by omega)).mpr hh)
      refine lv_aload_n hx hb dX12_readSaid_16 rfl (lv_at hl 2 rfl) ?_
      refine lv_iload_n hx hb dX12_readSaid_17 rfl (lv_at hl 0 rfl) ?_
      refine va_calli (va_runV (As := [.int (nI k33)]) (rest := []) ⟨hx, hb, hml, hown, hts⟩ (f_isWordN l dC dI ar cy _ hN st sl k33 B g m p (by omega) (by omega) hG.1 (MBt.fr hB hF) hT) (cwV 1 hts gX12_readSaid_X12_isWord rfl rfl rfl (by decide +kernel) ⟨Nat.le_of_ble_eq_true rfl, Nat.le_of_ble_eq_true rfl⟩) ⟨fun a U g mk q => ⟨q.1, mPre.blind q.2⟩, va_recv hK hP (ci := 11) (q0 := 0) rfl rfl, fun U hU hW => ⟨rfl, mPre.of hP hK hU hW⟩⟩ rfl rfl hl.1 rfl (lv_room (Nat.le_of_ble_eq_true rfl)) dX12_readSaid_18 ⟨Nat.le_of_ble_eq_true rfl, Nat.le_of_ble_eq_true rfl⟩) hS (fun q _ h => MA.le hS.1 q h) (MA.le hS.1) (fun r43 x t H locs ht hvm hw hB9 _ _ hS => ?_)
      have hP := mB.at ht hB9
      clear hB9 ht hvm
      obtain ⟨rfl, hw⟩ := hw
      have hP : va_P (dC, dI) vwCl (mw ar cy st sl) _ := hP
      rcases hw with ⟨rfl, hf44⟩ | ⟨rfl, hf45⟩
      · refine lv_if_ne (tgt := 30) hx hb dX12_readSaid_21 (by decide) (fun _ => ?_) (fun cc => absurd cc (by decide))
        refine lv_iload_n hx hb dX12_readSaid_30 rfl (lv_at hl 1 rfl) ?_
        refine lv_if_ne (tgt := 46) hx hb dX12_readSaid_31 (by decide) (fun cc => absurd (by decide) cc) (fun _ => ?_)
        refine lv_iload_n hx hb dX12_readSaid_34 rfl (lv_at hl 0 rfl) ?_
        refine lv_bipush (v := 23) hx hb dX12_readSaid_35 (by decide) ?_
        refine lv_icmp_le (tgt := 46) hx hb dX12_readSaid_37 (by decide) (fun _ => ?_) (fun cc => absurd ((nI_leI (a := k33) (b := 23) (by omega) (by omega)).mpr (by omega)) cc)
        refine lv_aload_n hx hb dX12_readSaid_46 rfl (lv_at hl 2 rfl) ?_
        refine va_get (D := (dC, dI)) (ci := 11) (v := .int (st 0 44)) (C := RX12) (T := TX12) (N := 47) hx hb hts ii_X12_readSaid hown hK hP 0 rfl rfl 44 (by decide) (hts _ mm_X12_readSaid_1) (fun _ hh => hh) rfl dX12_readSaid_47 ?_
        refine zz_top (v := (nI go)) (by show st 0 44 = _; rw [h44]) ?_
        refine lv_bipush (v := 20) hx hb dX12_readSaid_50 (by decide) ?_
        refine lv_icmp_eq (tgt := 64) hx hb dX12_readSaid_52 (by decide) (fun c16 => ?_) (fun c16 => ?_)
        · have c16 : go = 20 := (nI_eq (a := go) (b := 20) (by omega) (by omega)).mp c16
          refine lv_aload_n hx hb dX12_readSaid_64 rfl (lv_at hl 2 rfl) ?_
          refine lv_iconst (v := 4) hx hb dX12_readSaid_65 (by decide) ?_
          refine va_calli (va_runV (As := [.int 4]) (rest := []) ⟨hx, hb, hml, hown, hts⟩ (f_bad l dC dI ar cy _ hN st sl 4 B g m p (by omega) hG.1 (MBt.fr hB hF) hT) (cwV 1 hts gX12_readSaid_X12_bad rfl rfl rfl (by decide +kernel) ⟨Nat.le_of_ble_eq_true rfl, Nat.le_of_ble_eq_true rfl⟩) ⟨fun a U g mk q => ⟨q.1, mPre.blind q.2⟩, va_recv hK hP (ci := 11) (q0 := 0) rfl rfl, fun U hU hW => ⟨rfl, mPre.of hP hK hU hW⟩⟩ rfl rfl hl.1 rfl (lv_room (Nat.le_of_ble_eq_true rfl)) dX12_readSaid_66 ⟨Nat.le_of_ble_eq_true rfl, Nat.le_of_ble_eq_true rfl⟩) hS (fun q _ h => MA.le hS.1 q h) (MA.le hS.1) (fun r46 x t H locs ht hvm hw hB9 _ _ hS => ?_)
          have hP := mB.at ht hB9
          clear hB9 ht hvm
          obtain ⟨st47, sl48⟩ := x
          obtain ⟨hG2, hF2, hw⟩ := hw
          dsimp only at hG2 hF2 hw
          have hP : va_P (dC, dI) vwCl (mw ar cy st47 sl48) _ := hP
          have hG : MG [1, 2, 3, 6, 7, 13, 14, 15, 20, 21, 22] st st47 := hG.tr hG2 (by decide)
          have hFst47 : FM 2 st sl st47 sl48 := hF2
          have hF : FM 6 st sl st47 sl48 := hF.tr hFst47 (by omega) (by omega)
          clear hG2 hF2
          have hR : RN c nm st47 sl48 := hR.fr hFst47
          obtain ⟨rfl, hf49, hf50, hT⟩ := hw
          have hp9 := hT.2.2.2.2.2.2
          have hk1 := tkd_lt (B := B) (g := g) (m := m) (p := p)
          have hk2 := tkx_le (B := B) (g := g) (m := m) (p := p) hp9
          have hk3 := tka_le (B := B) (g := g) (m := m) (p := p) hp9 hB.2.2.1
          have hk4 := tkv_lt (p := p) hB hp9
          have hk5 := tkw_lt (B := B) (g := g) (m := m) (p := p)
          exact W.zret (v := 0) hx hb hr rfl (fun t ht hW => ⟨⟨0, (st47, sl48), rfl, ⟨hG, hF, Or.inr (⟨4, (tka B g m p), rfl, by show st47 0 10 = _; rw [hf49, bdk_n (by have h9 := @tkw_d B g m p; omega)], by show st47 0 11 = _; rw [hf50], by omega, sO_4 (Or.inr ⟨by omega, by omega⟩) (Or.inl rfl), by show st47 0 45 = _; rw [(hFst47 0 45 (by decide)).1, h45]⟩)⟩, mB.of ht hP⟩, hS.F ht⟩) hS.2.2 dX12_readSaid_69
        · have c16 : ¬ go = 20 := fun hh => c16 ((nI_eq (a := go) (b := 20) (by omega) (by omega)).mpr hh)
          refine lv_aload_n hx hb dX12_readSaid_55 rfl (lv_at hl 2 rfl) ?_
          refine va_get (D := (dC, dI)) (ci := 11) (v := .int (st 0 45)) (C := RX12) (T := TX12) (N := 47) hx hb hts ii_X12_readSaid hown hK hP 0 rfl rfl 45 (by decide) (hts _ mm_X12_readSaid_2) (fun _ hh => hh) rfl dX12_readSaid_56 ?_
          refine zz_top (v := 8) (by show st 0 45 = _; rw [h45]) ?_
          refine lv_bipush (v := 8) hx hb dX12_readSaid_59 (by decide) ?_
          refine lv_icmp_ne (tgt := 70) hx hb dX12_readSaid_61 (by decide) (fun cc => absurd (by decide) cc) (fun _ => ?_)
          refine lv_aload_n hx hb dX12_readSaid_64 rfl (lv_at hl 2 rfl) ?_
          refine lv_iconst (v := 4) hx hb dX12_readSaid_65 (by decide) ?_
          refine va_calli (va_runV (As := [.int 4]) (rest := []) ⟨hx, hb, hml, hown, hts⟩ (f_bad l dC dI ar cy _ hN st sl 4 B g m p (by omega) hG.1 (MBt.fr hB hF) hT) (cwV 1 hts gX12_readSaid_X12_bad rfl rfl rfl (by decide +kernel) ⟨Nat.le_of_ble_eq_true rfl, Nat.le_of_ble_eq_true rfl⟩) ⟨fun a U g mk q => ⟨q.1, mPre.blind q.2⟩, va_recv hK hP (ci := 11) (q0 := 0) rfl rfl, fun U hU hW => ⟨rfl, mPre.of hP hK hU hW⟩⟩ rfl rfl hl.1 rfl (lv_room (Nat.le_of_ble_eq_true rfl)) dX12_readSaid_66 ⟨Nat.le_of_ble_eq_true rfl, Nat.le_of_ble_eq_true rfl⟩) hS (fun q _ h => MA.le hS.1 q h) (MA.le hS.1) (fun r51 x t H locs ht hvm hw hB9 _ _ hS => ?_)
          have hP := mB.at ht hB9
          clear hB9 ht hvm
          obtain ⟨st52, sl53⟩ := x
          obtain ⟨hG2, hF2, hw⟩ := hw
          dsimp only at hG2 hF2 hw
          have hP : va_P (dC, dI) vwCl (mw ar cy st52 sl53) _ := hP
          have hG : MG [1, 2, 3, 6, 7, 13, 14, 15, 20, 21, 22] st st52 := hG.tr hG2 (by decide)
          have hFst52 : FM 2 st sl st52 sl53 := hF2
          have hF : FM 6 st sl st52 sl53 := hF.tr hFst52 (by omega) (by omega)
          clear hG2 hF2
          have hR : RN c nm st52 sl53 := hR.fr hFst52
          obtain ⟨rfl, hf54, hf55, hT⟩ := hw
          have hp9 := hT.2.2.2.2.2.2
          have hk1 := tkd_lt (B := B) (g := g) (m := m) (p := p)
          have hk2 := tkx_le (B := B) (g := g) (m := m) (p := p) hp9
          have hk3 := tka_le (B := B) (g := g) (m := m) (p := p) hp9 hB.2.2.1
          have hk4 := tkv_lt (p := p) hB hp9
          have hk5 := tkw_lt (B := B) (g := g) (m := m) (p := p)
          exact W.zret (v := 0) hx hb hr rfl (fun t ht hW => ⟨⟨0, (st52, sl53), rfl, ⟨hG, hF, Or.inr (⟨4, (tka B g m p), rfl, by show st52 0 10 = _; rw [hf54, bdk_n (by have h9 := @tkw_d B g m p; omega)], by show st52 0 11 = _; rw [hf55], by omega, sO_4 (Or.inr ⟨by omega, by omega⟩) (Or.inl rfl), by show st52 0 45 = _; rw [(hFst52 0 45 (by decide)).1, h45]⟩)⟩, mB.of ht hP⟩, hS.F ht⟩) hS.2.2 dX12_readSaid_69
      · refine lv_if_ne (tgt := 30) hx hb dX12_readSaid_21 (by decide) (fun cc => absurd (by decide) cc) (fun _ => ?_)
        refine lv_iinc (v := (nI (k33 + 1))) (lv' := [(2, .int (nI (k33 + 1))), (1, .int 0), (0, .ref (ar 0))]) hx hb dX12_readSaid_24 hl (k := 0) rfl (nI_add k33 1) (by decide) rfl (fun ls hl => ?_)
        refine lv_goto (tgt := 10) hx hb dX12_readSaid_27 (by decide) ?_
        exact ih37 (25 - (k33 + 1)) _ _ _ _ (by omega) ⟨(k33 + 1), rfl, by omega, by omega, fun i h1 h2 hz => if h9 : i = k33 then (by omega) else hv36_0 i h1 (by omega) hz, hP, hS, lv_sub hl [0, 1, 2] rfl, rfl⟩
set_option maxHeartbeats 4000000 in
set_option maxRecDepth 100000 in
theorem f_readAnd_8 (l : Launch) (dC : Nat → ClassId) (dI : Nat → Nat → Nat) (ar : Nat → Nat) (cy : Nat → ClassId) (sz : Nat) (hN : MN ar) (st : Nat → Nat → Int32) (sl : Nat → Nat → Int64) (B : Nat → Nat) (g m : Nat) (p : Nat) (c : Nat → Nat) (nm : Nat → Nat → Nat) (gn : Nat) (go : Nat) (hI : MI st) (hB : MBt B g m st) (hT : TM B g m p st sl) (hR : RN c nm st sl) (h43 : st 0 43 = nI gn) (h44 : st 0 44 = nI go) (h45 : st 0 45 = 8) (hgn : gn ≤ 2 * go) (hgo : go ≤ 20) : Met l yX12_readAnd wsX12_readAnd ({ frames := 4, cells := 0, slots := 0, locals := 92 }) (va_Pc [.ref (ar 0)] (mPre dC dI ar cy sz st sl)) (va_Qi (fun (r : Int32) (x : MT) => MG [1, 2, 3, 6, 7, 13, 14, 15, 20, 21, 22] st x.1 ∧ FM 6 st sl x.1 x.2 ∧ ((∃ q : Nat, ∃ n1 : Nat, ∃ o1 : Nat, ∃ t1 : Nat, r = 1 ∧ TM B g m q x.1 x.2 ∧ x.1 0 43 = nI n1 ∧ x.1 0 44 = nI o1 ∧ x.1 0 45 = 8 ∧ x.1 0 46 = nI t1 ∧ t1 < n1 ∧ n1 + 2 * go + 1 ≤ gn + 2 * o1 ∧ go + 1 ≤ o1 ∧ o1 ≤ 20 ∧ gn ≤ n1 ∧ sCond B g m (sOne B g m c nm 0) p go = sLoop B g m (sOne B g m c nm 0) 21 q o1 ∧ ¬ tkw B g m q = 14 ∧ x.1 0 10 = st 0 10) ∨ (∃ f : Nat, ∃ a : Nat, r = 0 ∧ x.1 0 10 = nI f ∧ x.1 0 11 = nI a ∧ 1 ≤ f ∧ sCond B g m (sOne B g m c nm 0) p go = sf f a ∧ x.1 0 45 = 8))) (mB dC dI ar cy) (MA ar sz)) 0 0 (MA ar sz) := by
  refine Met.ofW (cc := cX12_readAnd) (maxL := 2) (ret := (some .boolean)) (by decide) rfl ?_
  intro p9 e s m9 args below meth c9 s₁ B9 hml hv
  obtain ⟨rfl, hsz, hP, hK⟩ := hv
  have hx := B9.exec
  have hb := B9.bytes
  have hr := B9.returns
  have hts := atoms_spec (ws := wsX12_readAnd) B9.pre
  have hown : s.vm.findClass RX12 = some m9.cls := findClass_of_methodNamed B9.named
  subst hsz
  have hS : va_S (MA ar s.heap.size) s.heap s.heap [] := va_S.rf
  have hG : MG [1, 2, 3, 6, 7, 13, 14, 15, 20, 21, 22] st st := MG.rf hI
  have hl := lv_entry ([.ref (ar 0)]) (n := 2) (Nat.le_of_ble_eq_true rfl)
  rw [lg_entry_eq]
  generalize (lg_sl ([.ref (ar 0)]) ++ List.replicate (2 - (lg_sl ([.ref (ar 0)])).length) Slot.unset).toArray = ls at hl ⊢
  have hl : lv_has ls 2 [(0, .ref (ar 0))] := hl
  clear hI
  have hB1 := hB.2.2.1
  have hB2 := hB.2.2.2.1
  have hF : FM 6 st sl st sl := FM.rf
  have hp9 := hT.2.2.2.2.2.2
  have hk1 := tkd_lt (B := B) (g := g) (m := m) (p := p)
  have hk2 := tkx_le (B := B) (g := g) (m := m) (p := p) hp9
  have hk3 := tka_le (B := B) (g := g) (m := m) (p := p) hp9 hB.2.2.1
  have hk4 := tkv_lt (p := p) hB hp9
  have hk5 := tkw_lt (B := B) (g := g) (m := m) (p := p)
  have hR9 := hR.2.1
  refine lv_aload_n hx hb dX12_readAnd_0 rfl (lv_at hl 0 rfl) ?_
  refine va_calli (va_runV (As := []) (rest := []) ⟨hx, hb, hml, hown, hts⟩ (f_readSaid_8 l dC dI ar cy _ hN st sl B g m p c nm gn go hG.1 (MBt.fr hB hF) hT hR (by rw [h43]) (by rw [h44]) (by rw [h45]) (by omega) (by omega)) (cwV 0 hts gX12_readAnd_X12_readSaid rfl rfl rfl (by decide +kernel) ⟨Nat.le_of_ble_eq_true rfl, Nat.le_of_ble_eq_true rfl⟩) ⟨fun a U g mk q => ⟨q.1, mPre.blind q.2⟩, va_recv hK hP (ci := 11) (q0 := 0) rfl rfl, fun U hU hW => ⟨rfl, mPre.of hP hK hU hW⟩⟩ rfl rfl hl.1 rfl (lv_room (Nat.le_of_ble_eq_true rfl)) dX12_readAnd_1 ⟨Nat.le_of_ble_eq_true rfl, Nat.le_of_ble_eq_true rfl⟩) hS (fun q _ h => MA.le hS.1 q h) (MA.le hS.1) (fun r1 x t H locs ht hvm hw hB9 _ _ hS => ?_)
  have hP := mB.at ht hB9
  clear hB9 ht hvm
  obtain ⟨st2, sl3⟩ := x
  obtain ⟨hG2, hF2, hw⟩ := hw
  dsimp only at hG2 hF2 hw
  have hP : va_P (dC, dI) vwCl (mw ar cy st2 sl3) _ := hP
  have hG : MG [1, 2, 3, 6, 7, 13, 14, 15, 20, 21, 22] st st2 := hG.tr hG2 (by decide)
  have hFst2 : FM 6 st sl st2 sl3 := hF2
  have hF : FM 6 st sl st2 sl3 := hF.tr hFst2 (by omega) (by omega)
  clear hG2 hF2
  have hR : RN c nm st2 sl3 := hR.fr hFst2
  rcases hw with ⟨n4, n5, n6, n7, rfl, hT, hf8, hf9, hf10, hf11, hf12, hf13, hf14, hf15, hf16, hf17, hk18⟩ | ⟨n19, n20, rfl, hf21, hf22, hf23, hf24, hf25⟩
  · have hp9 := hT.2.2.2.2.2.2
    have hk1 := tkd_lt (B := B) (g := g) (m := m) (p := n4)
    have hk2 := tkx_le (B := B) (g := g) (m := m) (p := n4) hp9
    have hk3 := tka_le (B := B) (g := g) (m := m) (p := n4) hp9 hB.2.2.1
    have hk4 := tkv_lt (p := n4) hB hp9
    have hk5 := tkw_lt (B := B) (g := g) (m := m) (p := n4)
    refine lv_if_ne (tgt := 9) hx hb dX12_readAnd_4 (by decide) (fun _ => ?_) (fun cc => absurd cc (by decide))
    refine lv_aload_n hx hb dX12_readAnd_9 rfl (lv_at hl 0 rfl) ?_
    refine va_get (D := (dC, dI)) (ci := 11) (v := .int (st2 0 46)) (C := RX12) (T := TX12) (N := 47) hx hb hts ii_X12_readAnd hown hK hP 0 rfl rfl 46 (by decide) (hts _ mm_X12_readAnd_1) (fun _ hh => hh) rfl dX12_readAnd_10 ?_
    refine zz_top (v := (nI n7)) (by show st2 0 46 = _; rw [hf11]) ?_
    refine lv_istore_n (lv' := [(1, .int (nI n7)), (0, .ref (ar 0))]) hx hb dX12_readAnd_13 rfl hl (by decide) rfl (fun ls hl => ?_)
    refine zz_wf (fun n stk H locs ls => ∃ k26 : Nat, ∃ st27 : Nat → Nat → Int32, ∃ sl28 : Nat → Nat → Int64, ∃ n29 : Nat, ∃ o30 : Nat, n = 21 - o30 ∧ 0 ≤ k26 ∧ k26 < 60 ∧ st27 0 43 = nI n29 ∧ st27 0 44 = nI o30 ∧ k26 < n29 ∧ n29 + 2 * go + 1 ≤ gn + 2 * o30 ∧ go + 1 ≤ o30 ∧ o30 ≤ 20 ∧ gn ≤ n29 ∧ st27 0 45 = 8 ∧ (∃ (p7 : Nat), TM B g m p7 st27 sl28 ∧ RN c nm st27 sl28 ∧ sCond B g m (sOne B g m c nm 0) p go = sLoop B g m (sOne B g m c nm 0) 21 p7 o30) ∧ FM 6 st sl st27 sl28 ∧ st27 0 10 = st 0 10 ∧ va_P (dC, dI) vwCl (mw ar cy st27 sl28) H ∧ MG [1, 2, 3, 6, 7, 13, 14, 15, 20, 21, 22] st st27 ∧ va_S (MA ar s.heap.size) s.heap H locs ∧ lv_has ls 2 [(1, .int (nI k26)), (0, .ref (ar 0))] ∧ stk = []) ?_ (21 - n6) _ _ _ _ ⟨n7, st2, sl3, n5, n6, rfl, by omega, by omega, by rw [hf8], by rw [hf9], by omega, by omega, by omega, by omega, by omega, by rw [hf10], ⟨n4, hT, hR, sC_y hf17⟩, hF, by show st2 0 10 = st 0 10; rw [hk18], hP, hG, hS, lv_sub hl [0, 1] rfl, rfl⟩
    rintro nn stk H locs ls ⟨k26, st27, sl28, n29, o30, hm41, hv31_0, hv32_1, en29, eo30, hv33_0, hv34_1, hv35_2, hv36_3, hv37_4, hv38_5, hv39_6, hv40_7, hv41_8, hP, hG, hS, hl, rfl⟩ ih42
    have hF := hv40_7
    have hK10 := hv41_8
    obtain ⟨p7, hT, hR, hco⟩ := hv39_6
    have hp9 := hT.2.2.2.2.2.2
    have hk1 := tkd_lt (B := B) (g := g) (m := m) (p := p7)
    have hk2 := tkx_le (B := B) (g := g) (m := m) (p := p7) hp9
    have hk3 := tka_le (B := B) (g := g) (m := m) (p := p7) hp9 hB.2.2.1
    have hk4 := tkv_lt (p := p7) hB hp9
    have hk5 := tkw_lt (B := B) (g := g) (m := m) (p := p7)
    refine lv_aload_n hx hb dX12_readAnd_14 rfl (lv_at hl 1 rfl) ?_
    refine lv_bipush (v := 14) hx hb dX12_readAnd_15 (by decide) ?_
    refine va_calli (va_runV (As := [.int 14]) (rest := []) ⟨hx, hb, hml, hown, hts⟩ (f_isWord14 l dC dI ar cy _ hN st27 sl28 B g m p7 hG.1 (MBt.fr hB hF) hT) (cwV 1 hts gX12_readAnd_X12_isWord rfl rfl rfl (by decide +kernel) ⟨Nat.le_of_ble_eq_true rfl, Nat.le_of_ble_eq_true rfl⟩) ⟨fun a U g mk q => ⟨q.1, mPre.blind q.2⟩, va_recv hK hP (ci := 11) (q0 := 0) rfl rfl, fun U hU hW => ⟨rfl, mPre.of hP hK hU hW⟩⟩ rfl rfl hl.1 rfl (lv_room (Nat.le_of_ble_eq_true rfl)) dX12_readAnd_17 ⟨Nat.le_of_ble_eq_true rfl, Nat.le_of_ble_eq_true rfl⟩) hS (fun q _ h => MA.le hS.1 q h) (MA.le hS.1) (fun r43 x t H locs ht hvm hw hB9 _ _ hS => ?_)
    have hP := mB.at ht hB9
    clear hB9 ht hvm
    obtain ⟨rfl, hw⟩ := hw
    have hP : va_P (dC, dI) vwCl (mw ar cy st27 sl28) _ := hP
    rcases hw with ⟨rfl, hf44⟩ | ⟨rfl, hf45⟩
    · refine lv_if_eq (tgt := 51) hx hb dX12_readAnd_20 (by decide) (fun cc => absurd cc (by decide)) (fun _ => ?_)
      refine lv_aload_n hx hb dX12_readAnd_23 rfl (lv_at hl 1 rfl) ?_
      refine va_callv (va_runV (As := []) (rest := []) ⟨hx, hb, hml, hown, hts⟩ (f_go l dC dI ar cy _ hN st27 sl28 B g m (tkx B g m p7) hG.1 (MBt.fr hB hF) hT.1 hk2.2) (cwV 0 hts gX12_readAnd_X12_go rfl rfl rfl (by decide +kernel) ⟨Nat.le_of_ble_eq_true rfl, Nat.le_of_ble_eq_true rfl⟩) ⟨fun a U g mk q => ⟨q.1, mPre.blind q.2⟩, va_recv hK hP (ci := 11) (q0 := 0) rfl rfl, fun U hU hW => ⟨rfl, mPre.of hP hK hU hW⟩⟩ rfl rfl hl.1 rfl (lv_room (Nat.le_of_ble_eq_true rfl)) dX12_readAnd_24 ⟨Nat.le_of_ble_eq_true rfl, Nat.le_of_ble_eq_true rfl⟩) hS (fun q _ h => MA.le hS.1 q h) (MA.le hS.1) (fun x t H locs ht hvm hw hB9 _ _ hS => ?_)
      have hP := mB.at ht hB9
      clear hB9 ht hvm
      obtain ⟨st47, sl48⟩ := x
      obtain ⟨hG2, hF2, hw⟩ := hw
      dsimp only at hG2 hF2 hw
      have hP : va_P (dC, dI) vwCl (mw ar cy st47 sl48) _ := hP
      have hG : MG [1, 2, 3, 6, 7, 13, 14, 15, 20, 21, 22] st st47 := hG.tr hG2 (by decide)
      have hFst47 : FM 1 st27 sl28 st47 sl48 := hF2
      have hF : FM 6 st sl st47 sl48 := hF.tr hFst47 (by omega) (by omega)
      clear hG2 hF2
      have hR : RN c nm st47 sl48 := hR.fr hFst47
      have hT := hw
      have hp9 := hT.2.2.2.2.2.2
      have hk1 := tkd_lt (B := B) (g := g) (m := m) (p := (tkx B g m p7))
      have hk2 := tkx_le (B := B) (g := g) (m := m) (p := (tkx B g m p7)) hp9
      have hk3 := tka_le (B := B) (g := g) (m := m) (p := (tkx B g m p7)) hp9 hB.2.2.1
      have hk4 := tkv_lt (p := (tkx B g m p7)) hB hp9
      have hk5 := tkw_lt (B := B) (g := g) (m := m) (p := (tkx B g m p7))
      refine lv_aload_n hx hb dX12_readAnd_27 rfl (lv_at hl 1 rfl) ?_
      refine va_calli (va_runV (As := []) (rest := []) ⟨hx, hb, hml, hown, hts⟩ (f_readSaid_8 l dC dI ar cy _ hN st47 sl48 B g m (tkx B g m p7) c nm n29 o30 hG.1 (MBt.fr hB hF) hT hR (by rw [(hFst47 0 43 (by decide)).1, en29]) (by rw [(hFst47 0 44 (by decide)).1, eo30]) (by rw [(hFst47 0 45 (by decide)).1, hv38_5]) (by omega) (by omega)) (cwV 0 hts gX12_readAnd_X12_readSaid rfl rfl rfl (by decide +kernel) ⟨Nat.le_of_ble_eq_true rfl, Nat.le_of_ble_eq_true rfl⟩) ⟨fun a U g mk q => ⟨q.1, mPre.blind q.2⟩, va_recv hK hP (ci := 11) (q0 := 0) rfl rfl, fun U hU hW => ⟨rfl, mPre.of hP hK hU hW⟩⟩ rfl rfl hl.1 rfl (lv_room (Nat.le_of_ble_eq_true rfl)) dX12_readAnd_28 ⟨Nat.le_of_ble_eq_true rfl, Nat.le_of_ble_eq_true rfl⟩) hS (fun q _ h => MA.le hS.1 q h) (MA.le hS.1) (fun r49 x t H locs ht hvm hw hB9 _ _ hS => ?_)
      have hP := mB.at ht hB9
      clear hB9 ht hvm
      obtain ⟨st50, sl51⟩ := x
      obtain ⟨hG2, hF2, hw⟩ := hw
      dsimp only at hG2 hF2 hw
      have hP : va_P (dC, dI) vwCl (mw ar cy st50 sl51) _ := hP
      have hG : MG [1, 2, 3, 6, 7, 13, 14, 15, 20, 21, 22] st st50 := hG.tr hG2 (by decide)
      have hFst50 : FM 6 st47 sl48 st50 sl51 := hF2
      have hF : FM 6 st sl st50 sl51 := hF.tr hFst50 (by omega) (by omega)
      clear hG2 hF2
      have hR : RN c nm st50 sl51 := hR.fr hFst50
      rcases hw with ⟨n52, n53, n54, n55, rfl, hT, hf56, hf57, hf58, hf59, hf60, hf61, hf62, hf63, hf64, hf65, hk66⟩ | ⟨n67, n68, rfl, hf69, hf70, hf71, hf72, hf73⟩
      · have hp9 := hT.2.2.2.2.2.2
        have hk1 := tkd_lt (B := B) (g := g) (m := m) (p := n52)
        have hk2 := tkx_le (B := B) (g := g) (m := m) (p := n52) hp9
        have hk3 := tka_le (B := B) (g := g) (m := m) (p := n52) hp9 hB.2.2.1
        have hk4 := tkv_lt (p := n52) hB hp9
        have hk5 := tkw_lt (B := B) (g := g) (m := m) (p := n52)
        refine lv_if_ne (tgt := 36) hx hb dX12_readAnd_31 (by decide) (fun _ => ?_) (fun cc => absurd cc (by decide))
        refine lv_aload_n hx hb dX12_readAnd_36 rfl (lv_at hl 1 rfl) ?_
        refine lv_iconst (v := 2) hx hb dX12_readAnd_37 (by decide) ?_
        refine lv_iload_n hx hb dX12_readAnd_38 rfl (lv_at hl 0 rfl) ?_
        refine lv_aload_n hx hb dX12_readAnd_39 rfl (lv_at hl 1 rfl) ?_
        refine va_get (D := (dC, dI)) (ci := 11) (v := .int (st50 0 46)) (C := RX12) (T := TX12) (N := 47) hx hb hts ii_X12_readAnd hown hK hP 0 rfl rfl 46 (by decide) (hts _ mm_X12_readAnd_1) (fun _ hh => hh) rfl dX12_readAnd_40 ?_
        refine zz_top (v := (nI n55)) (by show st50 0 46 = _; rw [hf59]) ?_
        refine lv_iconst (v := 0) hx hb dX12_readAnd_43 (by decide) ?_
        refine va_calli (va_runV (As := [.int 2, .int (nI k26), .int (nI n55), .int 0]) (rest := []) ⟨hx, hb, hml, hown, hts⟩ (f_saysOne l dC dI ar cy _ hN st50 sl51 2 (nI k26) (nI n55) 0 B g m n52 n53 hG.1 (MBt.fr hB hF) hT (by rw [hf56]) (by omega)) (cwV 4 hts gX12_readAnd_X12_saysOne rfl rfl rfl (by decide +kernel) ⟨Nat.le_of_ble_eq_true rfl, Nat.le_of_ble_eq_true rfl⟩) ⟨fun a U g mk q => ⟨q.1, mPre.blind q.2⟩, va_recv hK hP (ci := 11) (q0 := 0) rfl rfl, fun U hU hW => ⟨rfl, mPre.of hP hK hU hW⟩⟩ rfl rfl hl.1 rfl (lv_room (Nat.le_of_ble_eq_true rfl)) dX12_readAnd_44 ⟨Nat.le_of_ble_eq_true rfl, Nat.le_of_ble_eq_true rfl⟩) hS (fun q _ h => MA.le hS.1 q h) (MA.le hS.1) (fun r74 x t H locs ht hvm hw hB9 _ _ hS => ?_)
        have hP := mB.at ht hB9
        clear hB9 ht hvm
        obtain ⟨st75, sl76⟩ := x
        obtain ⟨hG2, hF2, hw⟩ := hw
        dsimp only at hG2 hF2 hw
        have hP : va_P (dC, dI) vwCl (mw ar cy st75 sl76) _ := hP
        have hG : MG [1, 2, 3, 6, 7, 13, 14, 15, 20, 21, 22] st st75 := hG.tr hG2 (by decide)
        have hFst75 : FM 5 st50 sl51 st75 sl76 := hF2
        have hF : FM 6 st sl st75 sl76 := hF.tr hFst75 (by omega) (by omega)
        clear hG2 hF2
        have hR : RN c nm st75 sl76 := hR.fr hFst75
        obtain ⟨n77, rfl, hf78, hf79, hT, hk80⟩ := hw
        have hp9 := hT.2.2.2.2.2.2
        have hk1 := tkd_lt (B := B) (g := g) (m := m) (p := n52)
        have hk2 := tkx_le (B := B) (g := g) (m := m) (p := n52) hp9
        have hk3 := tka_le (B := B) (g := g) (m := m) (p := n52) hp9 hB.2.2.1
        have hk4 := tkv_lt (p := n52) hB hp9
        have hk5 := tkw_lt (B := B) (g := g) (m := m) (p := n52)
        refine lv_istore_n (lv' := [(1, .int (nI n77)), (0, .ref (ar 0))]) hx hb dX12_readAnd_47 rfl hl (by decide) rfl (fun ls hl => ?_)
        refine lv_goto (tgt := 14) hx hb dX12_readAnd_48 (by decide) ?_
        exact ih42 (21 - n54) _ _ _ _ (by omega) ⟨n77, st75, sl76, (n53 + 1), n54, rfl, by omega, by omega, by rw [hf79], by rw [(hFst75 0 44 (by decide)).1, hf57], by omega, by omega, by omega, by omega, by omega, by rw [(hFst75 0 45 (by decide)).1, hf58], ⟨n52, hT, hR, hco.trans (sL_y (sOne_pr _) (by omega) (by omega) hf65)⟩, hF, by show st75 0 10 = st 0 10; rw [hk80, hk66, (hFst47 0 10 (by decide)).1, hK10], hP, hG, hS, lv_sub hl [0, 1] rfl, rfl⟩
      · refine lv_if_ne (tgt := 36) hx hb dX12_readAnd_31 (by decide) (fun cc => absurd (by decide) cc) (fun _ => ?_)
        refine lv_iconst (v := 0) hx hb dX12_readAnd_34 (by decide) ?_
        exact W.zret (v := 0) hx hb hr rfl (fun t ht hW => ⟨⟨0, (st50, sl51), rfl, ⟨hG, hF, Or.inr (⟨n67, n68, rfl, by show st50 0 10 = _; rw [hf69], by show st50 0 11 = _; rw [hf70], hf71, hco.trans (sL_f (by omega) hf72 hf71), by show st50 0 45 = _; rw [hf73]⟩)⟩, mB.of ht hP⟩, hS.F ht⟩) hS.2.2 dX12_readAnd_35
    · refine lv_if_eq (tgt := 51) hx hb dX12_readAnd_20 (by decide) (fun _ => ?_) (fun cc => absurd (by decide) cc)
      refine lv_aload_n hx hb dX12_readAnd_51 rfl (lv_at hl 1 rfl) ?_
      refine lv_iload_n hx hb dX12_readAnd_52 rfl (lv_at hl 0 rfl) ?_
      refine va_put (D := (dC, dI)) (ci := 11) (v := .int (nI k26)) (ty := .int) (C := RX12) (T := TX12) (N := 47) hx hb hts ii_X12_readAnd tyX12 tyX12_ok nmX12 hown hK hP (mD hN _ _ _ _) hS 0 rfl rfl 46 (by decide) (hts _ mm_X12_readAnd_1) (fun _ hh => hh) rfl (by decide +kernel) rfl rfl (Nat.le_of_ble_eq_true rfl) dX12_readAnd_53 (fun H locs hP _ hS => ?_)
      have hP : va_P (dC, dI) vwCl (mw ar cy (up2 st27 0 46 (nI k26)) sl28) H := hP
      obtain ⟨st81, est81⟩ : ∃ y, y = up2 st27 0 46 (nI k26) := ⟨_, rfl⟩
      have hG : MG [1, 2, 3, 6, 7, 13, 14, 15, 20, 21, 22] st st81 := by rw [est81]; exact hG.up (rn (n := k26) (by decide : mr 0 46 = 60) (by omega)) (pn (by decide : pcl 0 46 = 12) (by decide))
      rw [← est81] at hP
      have hF : FM 6 st sl st81 sl28 := by rw [est81]; exact hF.up (by decide)
      have hT : TM B g m p7 st81 sl28 := by rw [est81]; exact hT.up (by omega)
      have hR : RN c nm st81 sl28 := by rw [est81]; exact hR.up (by omega)
      refine lv_iconst (v := 1) hx hb dX12_readAnd_56 (by decide) ?_
      exact W.zret (v := 1) hx hb hr rfl (fun t ht hW => ⟨⟨1, (st81, sl28), rfl, ⟨hG, hF, Or.inl (⟨p7, n29, o30, k26, rfl, hT, by show st81 0 43 = _; rw [est81, up2_ne (r := 0) (k := 46) (a := 0) (j := 43) _ _ (by omega), en29], by show st81 0 44 = _; rw [est81, up2_ne (r := 0) (k := 46) (a := 0) (j := 44) _ _ (by omega), eo30], by show st81 0 45 = _; rw [est81, up2_ne (r := 0) (k := 46) (a := 0) (j := 45) _ _ (by omega), hv38_5], by show st81 0 46 = _; rw [est81, up2_same], by omega, by omega, by omega, by omega, by omega, hco, by omega, by show st81 0 10 = st 0 10; rw [est81, up2_ne (r := 0) (k := 46) (a := 0) (j := 10) _ _ (by omega), hK10]⟩)⟩, mB.of ht hP⟩, hS.F ht⟩) hS.2.2 dX12_readAnd_57
  · refine lv_if_ne (tgt := 9) hx hb dX12_readAnd_4 (by decide) (fun cc => absurd (by decide) cc) (fun _ => ?_)
    refine lv_iconst (v := 0) hx hb dX12_readAnd_7 (by decide) ?_
    exact W.zret (v := 0) hx hb hr rfl (fun t ht hW => ⟨⟨0, (st2, sl3), rfl, ⟨hG, hF, Or.inr (⟨n19, n20, rfl, by show st2 0 10 = _; rw [hf21], by show st2 0 11 = _; rw [hf22], hf23, sC_f hf24 hf23, by show st2 0 45 = _; rw [hf25]⟩)⟩, mB.of ht hP⟩, hS.F ht⟩) hS.2.2 dX12_readAnd_8
