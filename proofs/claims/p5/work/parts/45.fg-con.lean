set_option maxHeartbeats 4000000 in
set_option maxRecDepth 100000 in
theorem f_readOne0 (l : Launch) (dC : Nat → ClassId) (dI : Nat → Nat → Nat) (ar : Nat → Nat) (cy : Nat → ClassId) (sz : Nat) (hN : MN ar) (st : Nat → Nat → Int32) (sl : Nat → Nat → Int64) (vn : Nat) (B : Nat → Nat) (g m : Nat) (p : Nat) (c : Nat → Nat) (nm : Nat → Nat → Nat) (hvn : vn < 9) (hI : MI st) (hB : MBt B g m st) (hT : TM B g m p st sl) (hR : RT c nm st sl) (hvn : vn = c 0) : Met l yX12_readOne wsX12_readOne ({ frames := 3, cells := 0, slots := 0, locals := 69 }) (va_Pc [.ref (ar 0), .int 0, .int (nI vn)] (mPre dC dI ar cy sz st sl)) (va_Qi (fun (r : Int32) (x : MT) => MG [1, 2, 3, 6, 7, 8, 9, 10, 11, 12, 13, 14, 15, 20, 21, 22] st x.1 ∧ FM 2 st sl x.1 x.2 ∧ ((∃ n : Nat, r = 1 ∧ n < vn ∧ x.1 0 13 = nI n ∧ TM B g m (tkx B g m p) x.1 x.2 ∧ (∀ k, eOne B g m p (c 0) (nm 0) k = k (tkx B g m p)) ∧ x.1 0 10 = st 0 10) ∨ (∃ f : Nat, ∃ a : Nat, r = 0 ∧ x.1 0 10 = nI f ∧ x.1 0 11 = nI a ∧ 1 ≤ f ∧ (∀ k, eOne B g m p (c 0) (nm 0) k = fl f a)))) (mB dC dI ar cy) (MA ar sz)) 0 0 (MA ar sz) := by
  refine Met.ofW (cc := cX12_readOne) (maxL := 3) (ret := (some .boolean)) (by decide) rfl ?_
  intro p9 e s m9 args below meth c9 s₁ B9 hml hv
  obtain ⟨rfl, hsz, hP, hK⟩ := hv
  have hx := B9.exec
  have hb := B9.bytes
  have hr := B9.returns
  have hts := atoms_spec (ws := wsX12_readOne) B9.pre
  have hown : s.vm.findClass RX12 = some m9.cls := findClass_of_methodNamed B9.named
  subst hsz
  have hS : va_S (MA ar s.heap.size) s.heap s.heap [] := va_S.rf
  have hG : MG [1, 2, 3, 6, 7, 8, 9, 10, 11, 12, 13, 14, 15, 20, 21, 22] st st := MG.rf hI
  have hl := lv_entry ([.ref (ar 0), .int 0, .int (nI vn)]) (n := 3) (Nat.le_of_ble_eq_true rfl)
  rw [lg_entry_eq]
  generalize (lg_sl ([.ref (ar 0), .int 0, .int (nI vn)]) ++ List.replicate (3 - (lg_sl ([.ref (ar 0), .int 0, .int (nI vn)])).length) Slot.unset).toArray = ls at hl ⊢
  have hl : lv_has ls 3 [(0, .ref (ar 0)), (1, .int 0), (2, .int (nI vn))] := hl
  clear hI
  have hB1 := hB.2.2.1
  have hB2 := hB.2.2.2.1
  have hF : FM 2 st sl st sl := FM.rf
  have hp9 := hT.2.2.2.2.2.2
  have hk1 := tkd_lt (B := B) (g := g) (m := m) (p := p)
  have hk2 := tkx_le (B := B) (g := g) (m := m) (p := p) hp9
  have hk3 := tka_le (B := B) (g := g) (m := m) (p := p) hp9 hB.2.2.1
  have hk4 := tkv_lt (p := p) hB hp9
  have hk5 := tkw_lt (B := B) (g := g) (m := m) (p := p)
  have hR9 := hR.2.2.2.2.2.1
  have hT0 := hT
  have hR0 := hR
  have hw25 := @tkw_d B g m p
  refine lv_aload_n hx hb dX12_readOne_0 rfl (lv_at hl 0 rfl) ?_
  refine va_calli (va_runV (As := []) (rest := []) ⟨hx, hb, hml, hown, hts⟩ (f_isName l dC dI ar cy _ hN st sl B g m p hG.1 (MBt.fr hB hF) hT) (cwV 0 hts gX12_readOne_X12_isName rfl rfl rfl (by decide +kernel) ⟨Nat.le_of_ble_eq_true rfl, Nat.le_of_ble_eq_true rfl⟩) ⟨fun a U g mk q => ⟨q.1, mPre.blind q.2⟩, va_recv hK hP (ci := 11) (q0 := 0) rfl rfl, fun U hU hW => ⟨rfl, mPre.of hP hK hU hW⟩⟩ rfl rfl hl.1 rfl (lv_room (Nat.le_of_ble_eq_true rfl)) dX12_readOne_1 ⟨Nat.le_of_ble_eq_true rfl, Nat.le_of_ble_eq_true rfl⟩) hS (fun q _ h => MA.le hS.1 q h) (MA.le hS.1) (fun r1 x t H locs ht hvm hw hB9 _ _ hS => ?_)
  have hP := mB.at ht hB9
  clear hB9 ht hvm
  obtain ⟨rfl, hw⟩ := hw
  have hP : va_P (dC, dI) vwCl (mw ar cy st sl) _ := hP
  rcases hw with ⟨rfl, hf2⟩ | ⟨rfl, hf3⟩
  · refine lv_if_ne (tgt := 13) hx hb dX12_readOne_4 (by decide) (fun _ => ?_) (fun cc => absurd cc (by decide))
    refine lv_aload_n hx hb dX12_readOne_13 rfl (lv_at hl 0 rfl) ?_
    refine lv_aload_n hx hb dX12_readOne_14 rfl (lv_at hl 0 rfl) ?_
    refine va_get (D := (dC, dI)) (ci := 11) (v := .ref (ar 8)) (C := RX12) (T := TX12) (N := 47) hx hb hts ii_X12_readOne hown hK hP 0 rfl rfl 20 (by decide) (hts _ mm_X12_readOne_1) (fun _ hh => hh) rfl dX12_readOne_15 ?_
    refine lv_iload_n hx hb dX12_readOne_18 rfl (lv_at hl 1 rfl) ?_
    refine lv_iload_n hx hb dX12_readOne_19 rfl (lv_at hl 2 rfl) ?_
    refine lv_aload_n hx hb dX12_readOne_20 rfl (lv_at hl 0 rfl) ?_
    refine va_get (D := (dC, dI)) (ci := 11) (v := .long (sl 0 12)) (C := RX12) (T := TX12) (N := 47) hx hb hts ii_X12_readOne hown hK hP 0 rfl rfl 12 (by decide) (hts _ mm_X12_readOne_2) (fun _ hh => hh) rfl dX12_readOne_21 ?_
    refine va_calli (va_runS (As := [.ref (ar 8), .int 0, .int (nI vn), .long (sl 0 12)]) (rest := [.ref (ar 0)]) ⟨hx, hb, hml, hown, hts⟩ (f_findIn0 l dC dI ar cy _ hN st sl vn (sl 0 12) (by omega) hG.1 ) (va_cwS 4 hts gX12_readOne_X12_findIn rfl rfl rfl (by decide +kernel) ⟨Nat.le_of_ble_eq_true rfl, Nat.le_of_ble_eq_true rfl⟩) ⟨fun a U g mk q => ⟨q.1, mPre.blind q.2⟩, fun U hU hW => ⟨rfl, mPre.of hP hK hU hW⟩⟩ rfl rfl hl.1 rfl (lv_room (Nat.le_of_ble_eq_true rfl)) dX12_readOne_24 ⟨Nat.le_of_ble_eq_true rfl, Nat.le_of_ble_eq_true rfl⟩) hS (fun q _ h => MA.le hS.1 q h) (MA.le hS.1) (fun r4 x t H locs ht hvm hw hB9 _ _ hS => ?_)
    have hP := mB.at ht hB9
    clear hB9 ht hvm
    obtain ⟨rfl, hw⟩ := hw
    have hP : va_P (dC, dI) vwCl (mw ar cy st sl) _ := hP
    rcases hw with ⟨rfl, hf5⟩ | ⟨n6, rfl, hf7, hf8⟩
    · refine va_put (D := (dC, dI)) (ci := 11) (v := .int (-1)) (ty := .int) (C := RX12) (T := TX12) (N := 47) hx hb hts ii_X12_readOne tyX12 tyX12_ok nmX12 hown hK hP (mD hN _ _ _ _) hS 0 rfl rfl 13 (by decide) (hts _ mm_X12_readOne_3) (fun _ hh => hh) rfl (by decide +kernel) rfl rfl (Nat.le_of_ble_eq_true rfl) dX12_readOne_27 (fun H locs hP _ hS => ?_)
      have hP : va_P (dC, dI) vwCl (mw ar cy (up2 st 0 13 (-1)) sl) H := hP
      obtain ⟨st9, est9⟩ : ∃ y, y = up2 st 0 13 (-1) := ⟨_, rfl⟩
      have hG : MG [1, 2, 3, 6, 7, 8, 9, 10, 11, 12, 13, 14, 15, 20, 21, 22] st st9 := by rw [est9]; exact hG.up (rz (by decide : mr 0 13 = 0)) (pn (by decide : pcl 0 13 = 16) (by decide))
      rw [← est9] at hP
      have hF : FM 2 st sl st9 sl := by rw [est9]; exact hF.up (by decide)
      have hT : TM B g m p st9 sl := by rw [est9]; exact hT.up (by omega)
      have hR : RT c nm st9 sl := by rw [est9]; exact hR.up0 (by omega)
      refine lv_aload_n hx hb dX12_readOne_30 rfl (lv_at hl 0 rfl) ?_
      refine va_get (D := (dC, dI)) (ci := 11) (v := .int (st9 0 13)) (C := RX12) (T := TX12) (N := 47) hx hb hts ii_X12_readOne hown hK hP 0 rfl rfl 13 (by decide) (hts _ mm_X12_readOne_3) (fun _ hh => hh) rfl dX12_readOne_31 ?_
      refine zz_top (v := (-1)) (by show st9 0 13 = _; rw [est9, up2_same]) ?_
      refine lv_iconst (v := (-1)) hx hb dX12_readOne_34 (by decide) ?_
      refine lv_icmp_ne (tgt := 44) hx hb dX12_readOne_35 (by decide) (fun cc => absurd (by decide) cc) (fun _ => ?_)
      refine lv_aload_n hx hb dX12_readOne_38 rfl (lv_at hl 0 rfl) ?_
      refine lv_iconst (v := 3) hx hb dX12_readOne_39 (by decide) ?_
      refine va_calli (va_runV (As := [.int 3]) (rest := []) ⟨hx, hb, hml, hown, hts⟩ (f_bad l dC dI ar cy _ hN st9 sl 3 B g m p (by omega) hG.1 (MBt.fr hB hF) hT) (cwV 1 hts gX12_readOne_X12_bad rfl rfl rfl (by decide +kernel) ⟨Nat.le_of_ble_eq_true rfl, Nat.le_of_ble_eq_true rfl⟩) ⟨fun a U g mk q => ⟨q.1, mPre.blind q.2⟩, va_recv hK hP (ci := 11) (q0 := 0) rfl rfl, fun U hU hW => ⟨rfl, mPre.of hP hK hU hW⟩⟩ rfl rfl hl.1 rfl (lv_room (Nat.le_of_ble_eq_true rfl)) dX12_readOne_40 ⟨Nat.le_of_ble_eq_true rfl, Nat.le_of_ble_eq_true rfl⟩) hS (fun q _ h => MA.le hS.1 q h) (MA.le hS.1) (fun r10 x t H locs ht hvm hw hB9 _ _ hS => ?_)
      have hP := mB.at ht hB9
      clear hB9 ht hvm
      obtain ⟨st11, sl12⟩ := x
      obtain ⟨hG2, hF2, hw⟩ := hw
      dsimp only at hG2 hF2 hw
      have hP : va_P (dC, dI) vwCl (mw ar cy st11 sl12) _ := hP
      have hG : MG [1, 2, 3, 6, 7, 8, 9, 10, 11, 12, 13, 14, 15, 20, 21, 22] st st11 := hG.tr hG2 (by decide)
      have hFst11 : FM 2 st9 sl st11 sl12 := hF2
      have hF : FM 2 st sl st11 sl12 := hF.tr hFst11 (by omega) (by omega)
      clear hG2 hF2
      have hR : RT c nm st11 sl12 := hR.fr hFst11 (by omega)
      obtain ⟨rfl, hf13, hf14, hT⟩ := hw
      have hp9 := hT.2.2.2.2.2.2
      have hk1 := tkd_lt (B := B) (g := g) (m := m) (p := p)
      have hk2 := tkx_le (B := B) (g := g) (m := m) (p := p) hp9
      have hk3 := tka_le (B := B) (g := g) (m := m) (p := p) hp9 hB.2.2.1
      have hk4 := tkv_lt (p := p) hB hp9
      have hk5 := tkw_lt (B := B) (g := g) (m := m) (p := p)
      exact W.zret (v := 0) hx hb hr rfl (fun t ht hW => ⟨⟨0, (st11, sl12), rfl, ⟨hG, hF, Or.inr (⟨3, (tka B g m p), rfl, by show st11 0 10 = _; rw [hf13, bdk_n (by omega)], by show st11 0 11 = _; rw [hf14], by omega, fun k => by unfold eOne; rw [if_neg (by omega), if_pos (knw_f _ (hR0.nk (a := 0) (by decide) (fun i hi => by rw [← (hT0.2.2.2.2.2.1 (by omega))]; exact (fun i (hi : i < c 0) => hf5 i (by omega)) i hi)))]⟩)⟩, mB.of ht hP⟩, hS.F ht⟩) hS.2.2 dX12_readOne_43
    · refine va_put (D := (dC, dI)) (ci := 11) (v := .int (nI n6)) (ty := .int) (C := RX12) (T := TX12) (N := 47) hx hb hts ii_X12_readOne tyX12 tyX12_ok nmX12 hown hK hP (mD hN _ _ _ _) hS 0 rfl rfl 13 (by decide) (hts _ mm_X12_readOne_3) (fun _ hh => hh) rfl (by decide +kernel) rfl rfl (Nat.le_of_ble_eq_true rfl) dX12_readOne_27 (fun H locs hP _ hS => ?_)
      have hP : va_P (dC, dI) vwCl (mw ar cy (up2 st 0 13 (nI n6)) sl) H := hP
      obtain ⟨st15, est15⟩ : ∃ y, y = up2 st 0 13 (nI n6) := ⟨_, rfl⟩
      have hG : MG [1, 2, 3, 6, 7, 8, 9, 10, 11, 12, 13, 14, 15, 20, 21, 22] st st15 := by rw [est15]; exact hG.up (rz (by decide : mr 0 13 = 0)) (pn (by decide : pcl 0 13 = 16) (by decide))
      rw [← est15] at hP
      have hF : FM 2 st sl st15 sl := by rw [est15]; exact hF.up (by decide)
      have hT : TM B g m p st15 sl := by rw [est15]; exact hT.up (by omega)
      have hR : RT c nm st15 sl := by rw [est15]; exact hR.up0 (by omega)
      refine lv_aload_n hx hb dX12_readOne_30 rfl (lv_at hl 0 rfl) ?_
      refine va_get (D := (dC, dI)) (ci := 11) (v := .int (st15 0 13)) (C := RX12) (T := TX12) (N := 47) hx hb hts ii_X12_readOne hown hK hP 0 rfl rfl 13 (by decide) (hts _ mm_X12_readOne_3) (fun _ hh => hh) rfl dX12_readOne_31 ?_
      refine zz_top (v := (nI n6)) (by show st15 0 13 = _; rw [est15, up2_same]) ?_
      refine lv_iconst (v := (-1)) hx hb dX12_readOne_34 (by decide) ?_
      refine lv_icmp_ne (tgt := 44) hx hb dX12_readOne_35 (by decide) (fun _ => ?_) (fun cc => absurd cc (nI_nem (by omega)))
      refine lv_aload_n hx hb dX12_readOne_44 rfl (lv_at hl 0 rfl) ?_
      refine va_callv (va_runV (As := []) (rest := []) ⟨hx, hb, hml, hown, hts⟩ (f_go l dC dI ar cy _ hN st15 sl B g m (tkx B g m p) hG.1 (MBt.fr hB hF) hT.1 hk2.2) (cwV 0 hts gX12_readOne_X12_go rfl rfl rfl (by decide +kernel) ⟨Nat.le_of_ble_eq_true rfl, Nat.le_of_ble_eq_true rfl⟩) ⟨fun a U g mk q => ⟨q.1, mPre.blind q.2⟩, va_recv hK hP (ci := 11) (q0 := 0) rfl rfl, fun U hU hW => ⟨rfl, mPre.of hP hK hU hW⟩⟩ rfl rfl hl.1 rfl (lv_room (Nat.le_of_ble_eq_true rfl)) dX12_readOne_45 ⟨Nat.le_of_ble_eq_true rfl, Nat.le_of_ble_eq_true rfl⟩) hS (fun q _ h => MA.le hS.1 q h) (MA.le hS.1) (fun x t H locs ht hvm hw hB9 _ _ hS => ?_)
      have hP := mB.at ht hB9
      clear hB9 ht hvm
      obtain ⟨st17, sl18⟩ := x
      obtain ⟨hG2, hF2, hw⟩ := hw
      dsimp only at hG2 hF2 hw
      have hP : va_P (dC, dI) vwCl (mw ar cy st17 sl18) _ := hP
      have hG : MG [1, 2, 3, 6, 7, 8, 9, 10, 11, 12, 13, 14, 15, 20, 21, 22] st st17 := hG.tr hG2 (by decide)
      have hFst17 : FM 1 st15 sl st17 sl18 := hF2
      have hF : FM 2 st sl st17 sl18 := hF.tr hFst17 (by omega) (by omega)
      clear hG2 hF2
      have hR : RT c nm st17 sl18 := hR.fr hFst17 (by omega)
      have hT := hw
      have hp9 := hT.2.2.2.2.2.2
      have hk1 := tkd_lt (B := B) (g := g) (m := m) (p := (tkx B g m p))
      have hk2 := tkx_le (B := B) (g := g) (m := m) (p := (tkx B g m p)) hp9
      have hk3 := tka_le (B := B) (g := g) (m := m) (p := (tkx B g m p)) hp9 hB.2.2.1
      have hk4 := tkv_lt (p := (tkx B g m p)) hB hp9
      have hk5 := tkw_lt (B := B) (g := g) (m := m) (p := (tkx B g m p))
      refine lv_iconst (v := 1) hx hb dX12_readOne_48 (by decide) ?_
      exact W.zret (v := 1) hx hb hr rfl (fun t ht hW => ⟨⟨1, (st17, sl18), rfl, ⟨hG, hF, Or.inl (⟨n6, rfl, by omega, by show st17 0 13 = _; rw [(hFst17 0 13 (by decide)).1, est15, up2_same], hT, fun k => by unfold eOne; rw [if_neg (by omega), if_neg (by rw [knw_t (n := c 0) (i := n6) (show n6 < c 0 by omega) (hR0.kn (a := 0) (by decide) (show n6 < c 0 by omega) (tkc_V (m := m) (by omega) hB1 (by omega)) (hf8.trans (hT0.2.2.2.2.2.1 (by omega))))]; decide)], by show st17 0 10 = st 0 10; rw [(hFst17 0 10 (by decide)).1, est15, up2_ne (r := 0) (k := 13) (a := 0) (j := 10) _ _ (by omega)]⟩)⟩, mB.of ht hP⟩, hS.F ht⟩) hS.2.2 dX12_readOne_49
  · refine lv_if_ne (tgt := 13) hx hb dX12_readOne_4 (by decide) (fun cc => absurd (by decide) cc) (fun _ => ?_)
    refine lv_aload_n hx hb dX12_readOne_7 rfl (lv_at hl 0 rfl) ?_
    refine lv_iconst (v := 1) hx hb dX12_readOne_8 (by decide) ?_
    refine va_calli (va_runV (As := [.int 1]) (rest := []) ⟨hx, hb, hml, hown, hts⟩ (f_bad l dC dI ar cy _ hN st sl 1 B g m p (by omega) hG.1 (MBt.fr hB hF) hT) (cwV 1 hts gX12_readOne_X12_bad rfl rfl rfl (by decide +kernel) ⟨Nat.le_of_ble_eq_true rfl, Nat.le_of_ble_eq_true rfl⟩) ⟨fun a U g mk q => ⟨q.1, mPre.blind q.2⟩, va_recv hK hP (ci := 11) (q0 := 0) rfl rfl, fun U hU hW => ⟨rfl, mPre.of hP hK hU hW⟩⟩ rfl rfl hl.1 rfl (lv_room (Nat.le_of_ble_eq_true rfl)) dX12_readOne_9 ⟨Nat.le_of_ble_eq_true rfl, Nat.le_of_ble_eq_true rfl⟩) hS (fun q _ h => MA.le hS.1 q h) (MA.le hS.1) (fun r19 x t H locs ht hvm hw hB9 _ _ hS => ?_)
    have hP := mB.at ht hB9
    clear hB9 ht hvm
    obtain ⟨st20, sl21⟩ := x
    obtain ⟨hG2, hF2, hw⟩ := hw
    dsimp only at hG2 hF2 hw
    have hP : va_P (dC, dI) vwCl (mw ar cy st20 sl21) _ := hP
    have hG : MG [1, 2, 3, 6, 7, 8, 9, 10, 11, 12, 13, 14, 15, 20, 21, 22] st st20 := hG.tr hG2 (by decide)
    have hFst20 : FM 2 st sl st20 sl21 := hF2
    have hF : FM 2 st sl st20 sl21 := hF.tr hFst20 (by omega) (by omega)
    clear hG2 hF2
    have hR : RT c nm st20 sl21 := hR.fr hFst20 (by omega)
    obtain ⟨rfl, hf22, hf23, hT⟩ := hw
    have hp9 := hT.2.2.2.2.2.2
    have hk1 := tkd_lt (B := B) (g := g) (m := m) (p := p)
    have hk2 := tkx_le (B := B) (g := g) (m := m) (p := p) hp9
    have hk3 := tka_le (B := B) (g := g) (m := m) (p := p) hp9 hB.2.2.1
    have hk4 := tkv_lt (p := p) hB hp9
    have hk5 := tkw_lt (B := B) (g := g) (m := m) (p := p)
    exact W.zret (v := 0) hx hb hr rfl (fun t ht hW => ⟨⟨0, (st20, sl21), rfl, ⟨hG, hF, Or.inr (⟨1, (tka B g m p), rfl, by show st20 0 10 = _; rw [hf22, bdk_1], by show st20 0 11 = _; rw [hf23], by omega, fun k => by unfold eOne; rw [if_pos (by omega)]⟩)⟩, mB.of ht hP⟩, hS.F ht⟩) hS.2.2 dX12_readOne_12
set_option maxHeartbeats 4000000 in
set_option maxRecDepth 100000 in
theorem f_readOne1 (l : Launch) (dC : Nat → ClassId) (dI : Nat → Nat → Nat) (ar : Nat → Nat) (cy : Nat → ClassId) (sz : Nat) (hN : MN ar) (st : Nat → Nat → Int32) (sl : Nat → Nat → Int64) (vn : Nat) (B : Nat → Nat) (g m : Nat) (p : Nat) (c : Nat → Nat) (nm : Nat → Nat → Nat) (hvn : vn < 9) (hI : MI st) (hB : MBt B g m st) (hT : TM B g m p st sl) (hR : RT c nm st sl) (hvn : vn = c 1) : Met l yX12_readOne wsX12_readOne ({ frames := 3, cells := 0, slots := 0, locals := 69 }) (va_Pc [.ref (ar 0), .int 5, .int (nI vn)] (mPre dC dI ar cy sz st sl)) (va_Qi (fun (r : Int32) (x : MT) => MG [1, 2, 3, 6, 7, 8, 9, 10, 11, 12, 13, 14, 15, 20, 21, 22] st x.1 ∧ FM 2 st sl x.1 x.2 ∧ ((∃ n : Nat, r = 1 ∧ n < vn ∧ x.1 0 13 = nI n ∧ TM B g m (tkx B g m p) x.1 x.2 ∧ (∀ k, eOne B g m p (c 1) (nm 1) k = k (tkx B g m p)) ∧ x.1 0 10 = st 0 10) ∨ (∃ f : Nat, ∃ a : Nat, r = 0 ∧ x.1 0 10 = nI f ∧ x.1 0 11 = nI a ∧ 1 ≤ f ∧ (∀ k, eOne B g m p (c 1) (nm 1) k = fl f a)))) (mB dC dI ar cy) (MA ar sz)) 0 0 (MA ar sz) := by
  refine Met.ofW (cc := cX12_readOne) (maxL := 3) (ret := (some .boolean)) (by decide) rfl ?_
  intro p9 e s m9 args below meth c9 s₁ B9 hml hv
  obtain ⟨rfl, hsz, hP, hK⟩ := hv
  have hx := B9.exec
  have hb := B9.bytes
  have hr := B9.returns
  have hts := atoms_spec (ws := wsX12_readOne) B9.pre
  have hown : s.vm.findClass RX12 = some m9.cls := findClass_of_methodNamed B9.named
  subst hsz
  have hS : va_S (MA ar s.heap.size) s.heap s.heap [] := va_S.rf
  have hG : MG [1, 2, 3, 6, 7, 8, 9, 10, 11, 12, 13, 14, 15, 20, 21, 22] st st := MG.rf hI
  have hl := lv_entry ([.ref (ar 0), .int 5, .int (nI vn)]) (n := 3) (Nat.le_of_ble_eq_true rfl)
  rw [lg_entry_eq]
  generalize (lg_sl ([.ref (ar 0), .int 5, .int (nI vn)]) ++ List.replicate (3 - (lg_sl ([.ref (ar 0), .int 5, .int (nI vn)])).length) Slot.unset).toArray = ls at hl ⊢
  have hl : lv_has ls 3 [(0, .ref (ar 0)), (1, .int 5), (2, .int (nI vn))] := hl
  clear hI
  have hB1 := hB.2.2.1
  have hB2 := hB.2.2.2.1
  have hF : FM 2 st sl st sl := FM.rf
  have hp9 := hT.2.2.2.2.2.2
  have hk1 := tkd_lt (B := B) (g := g) (m := m) (p := p)
  have hk2 := tkx_le (B := B) (g := g) (m := m) (p := p) hp9
  have hk3 := tka_le (B := B) (g := g) (m := m) (p := p) hp9 hB.2.2.1
  have hk4 := tkv_lt (p := p) hB hp9
  have hk5 := tkw_lt (B := B) (g := g) (m := m) (p := p)
  have hR9 := hR.2.2.2.2.2.1
  have hT0 := hT
  have hR0 := hR
  have hw25 := @tkw_d B g m p
  refine lv_aload_n hx hb dX12_readOne_0 rfl (lv_at hl 0 rfl) ?_
  refine va_calli (va_runV (As := []) (rest := []) ⟨hx, hb, hml, hown, hts⟩ (f_isName l dC dI ar cy _ hN st sl B g m p hG.1 (MBt.fr hB hF) hT) (cwV 0 hts gX12_readOne_X12_isName rfl rfl rfl (by decide +kernel) ⟨Nat.le_of_ble_eq_true rfl, Nat.le_of_ble_eq_true rfl⟩) ⟨fun a U g mk q => ⟨q.1, mPre.blind q.2⟩, va_recv hK hP (ci := 11) (q0 := 0) rfl rfl, fun U hU hW => ⟨rfl, mPre.of hP hK hU hW⟩⟩ rfl rfl hl.1 rfl (lv_room (Nat.le_of_ble_eq_true rfl)) dX12_readOne_1 ⟨Nat.le_of_ble_eq_true rfl, Nat.le_of_ble_eq_true rfl⟩) hS (fun q _ h => MA.le hS.1 q h) (MA.le hS.1) (fun r1 x t H locs ht hvm hw hB9 _ _ hS => ?_)
  have hP := mB.at ht hB9
  clear hB9 ht hvm
  obtain ⟨rfl, hw⟩ := hw
  have hP : va_P (dC, dI) vwCl (mw ar cy st sl) _ := hP
  rcases hw with ⟨rfl, hf2⟩ | ⟨rfl, hf3⟩
  · refine lv_if_ne (tgt := 13) hx hb dX12_readOne_4 (by decide) (fun _ => ?_) (fun cc => absurd cc (by decide))
    refine lv_aload_n hx hb dX12_readOne_13 rfl (lv_at hl 0 rfl) ?_
    refine lv_aload_n hx hb dX12_readOne_14 rfl (lv_at hl 0 rfl) ?_
    refine va_get (D := (dC, dI)) (ci := 11) (v := .ref (ar 8)) (C := RX12) (T := TX12) (N := 47) hx hb hts ii_X12_readOne hown hK hP 0 rfl rfl 20 (by decide) (hts _ mm_X12_readOne_1) (fun _ hh => hh) rfl dX12_readOne_15 ?_
    refine lv_iload_n hx hb dX12_readOne_18 rfl (lv_at hl 1 rfl) ?_
    refine lv_iload_n hx hb dX12_readOne_19 rfl (lv_at hl 2 rfl) ?_
    refine lv_aload_n hx hb dX12_readOne_20 rfl (lv_at hl 0 rfl) ?_
    refine va_get (D := (dC, dI)) (ci := 11) (v := .long (sl 0 12)) (C := RX12) (T := TX12) (N := 47) hx hb hts ii_X12_readOne hown hK hP 0 rfl rfl 12 (by decide) (hts _ mm_X12_readOne_2) (fun _ hh => hh) rfl dX12_readOne_21 ?_
    refine va_calli (va_runS (As := [.ref (ar 8), .int 5, .int (nI vn), .long (sl 0 12)]) (rest := [.ref (ar 0)]) ⟨hx, hb, hml, hown, hts⟩ (f_findIn1 l dC dI ar cy _ hN st sl vn (sl 0 12) (by omega) hG.1 ) (va_cwS 4 hts gX12_readOne_X12_findIn rfl rfl rfl (by decide +kernel) ⟨Nat.le_of_ble_eq_true rfl, Nat.le_of_ble_eq_true rfl⟩) ⟨fun a U g mk q => ⟨q.1, mPre.blind q.2⟩, fun U hU hW => ⟨rfl, mPre.of hP hK hU hW⟩⟩ rfl rfl hl.1 rfl (lv_room (Nat.le_of_ble_eq_true rfl)) dX12_readOne_24 ⟨Nat.le_of_ble_eq_true rfl, Nat.le_of_ble_eq_true rfl⟩) hS (fun q _ h => MA.le hS.1 q h) (MA.le hS.1) (fun r4 x t H locs ht hvm hw hB9 _ _ hS => ?_)
    have hP := mB.at ht hB9
    clear hB9 ht hvm
    obtain ⟨rfl, hw⟩ := hw
    have hP : va_P (dC, dI) vwCl (mw ar cy st sl) _ := hP
    rcases hw with ⟨rfl, hf5⟩ | ⟨n6, rfl, hf7, hf8⟩
    · refine va_put (D := (dC, dI)) (ci := 11) (v := .int (-1)) (ty := .int) (C := RX12) (T := TX12) (N := 47) hx hb hts ii_X12_readOne tyX12 tyX12_ok nmX12 hown hK hP (mD hN _ _ _ _) hS 0 rfl rfl 13 (by decide) (hts _ mm_X12_readOne_3) (fun _ hh => hh) rfl (by decide +kernel) rfl rfl (Nat.le_of_ble_eq_true rfl) dX12_readOne_27 (fun H locs hP _ hS => ?_)
      have hP : va_P (dC, dI) vwCl (mw ar cy (up2 st 0 13 (-1)) sl) H := hP
      obtain ⟨st9, est9⟩ : ∃ y, y = up2 st 0 13 (-1) := ⟨_, rfl⟩
      have hG : MG [1, 2, 3, 6, 7, 8, 9, 10, 11, 12, 13, 14, 15, 20, 21, 22] st st9 := by rw [est9]; exact hG.up (rz (by decide : mr 0 13 = 0)) (pn (by decide : pcl 0 13 = 16) (by decide))
      rw [← est9] at hP
      have hF : FM 2 st sl st9 sl := by rw [est9]; exact hF.up (by decide)
      have hT : TM B g m p st9 sl := by rw [est9]; exact hT.up (by omega)
      have hR : RT c nm st9 sl := by rw [est9]; exact hR.up0 (by omega)
      refine lv_aload_n hx hb dX12_readOne_30 rfl (lv_at hl 0 rfl) ?_
      refine va_get (D := (dC, dI)) (ci := 11) (v := .int (st9 0 13)) (C := RX12) (T := TX12) (N := 47) hx hb hts ii_X12_readOne hown hK hP 0 rfl rfl 13 (by decide) (hts _ mm_X12_readOne_3) (fun _ hh => hh) rfl dX12_readOne_31 ?_
      refine zz_top (v := (-1)) (by show st9 0 13 = _; rw [est9, up2_same]) ?_
      refine lv_iconst (v := (-1)) hx hb dX12_readOne_34 (by decide) ?_
      refine lv_icmp_ne (tgt := 44) hx hb dX12_readOne_35 (by decide) (fun cc => absurd (by decide) cc) (fun _ => ?_)
      refine lv_aload_n hx hb dX12_readOne_38 rfl (lv_at hl 0 rfl) ?_
      refine lv_iconst (v := 3) hx hb dX12_readOne_39 (by decide) ?_
      refine va_calli (va_runV (As := [.int 3]) (rest := []) ⟨hx, hb, hml, hown, hts⟩ (f_bad l dC dI ar cy _ hN st9 sl 3 B g m p (by omega) hG.1 (MBt.fr hB hF) hT) (cwV 1 hts gX12_readOne_X12_bad rfl rfl rfl (by decide +kernel) ⟨Nat.le_of_ble_eq_true rfl, Nat.le_of_ble_eq_true rfl⟩) ⟨fun a U g mk q => ⟨q.1, mPre.blind q.2⟩, va_recv hK hP (ci := 11) (q0 := 0) rfl rfl, fun U hU hW => ⟨rfl, mPre.of hP hK hU hW⟩⟩ rfl rfl hl.1 rfl (lv_room (Nat.le_of_ble_eq_true rfl)) dX12_readOne_40 ⟨Nat.le_of_ble_eq_true rfl, Nat.le_of_ble_eq_true rfl⟩) hS (fun q _ h => MA.le hS.1 q h) (MA.le hS.1) (fun r10 x t H locs ht hvm hw hB9 _ _ hS => ?_)
      have hP := mB.at ht hB9
      clear hB9 ht hvm
      obtain ⟨st11, sl12⟩ := x
      obtain ⟨hG2, hF2, hw⟩ := hw
      dsimp only at hG2 hF2 hw
      have hP : va_P (dC, dI) vwCl (mw ar cy st11 sl12) _ := hP
      have hG : MG [1, 2, 3, 6, 7, 8, 9, 10, 11, 12, 13, 14, 15, 20, 21, 22] st st11 := hG.tr hG2 (by decide)
      have hFst11 : FM 2 st9 sl st11 sl12 := hF2
      have hF : FM 2 st sl st11 sl12 := hF.tr hFst11 (by omega) (by omega)
      clear hG2 hF2
      have hR : RT c nm st11 sl12 := hR.fr hFst11 (by omega)
      obtain ⟨rfl, hf13, hf14, hT⟩ := hw
      have hp9 := hT.2.2.2.2.2.2
      have hk1 := tkd_lt (B := B) (g := g) (m := m) (p := p)
      have hk2 := tkx_le (B := B) (g := g) (m := m) (p := p) hp9
      have hk3 := tka_le (B := B) (g := g) (m := m) (p := p) hp9 hB.2.2.1
      have hk4 := tkv_lt (p := p) hB hp9
      have hk5 := tkw_lt (B := B) (g := g) (m := m) (p := p)
      exact W.zret (v := 0) hx hb hr rfl (fun t ht hW => ⟨⟨0, (st11, sl12), rfl, ⟨hG, hF, Or.inr (⟨3, (tka B g m p), rfl, by show st11 0 10 = _; rw [hf13, bdk_n (by omega)], by show st11 0 11 = _; rw [hf14], by omega, fun k => by unfold eOne; rw [if_neg (by omega), if_pos (knw_f _ (hR0.nk (a := 1) (by decide) (fun i hi => by rw [← (hT0.2.2.2.2.2.1 (by omega))]; exact (fun i (hi : i < c 1) => hf5 i (by omega)) i hi)))]⟩)⟩, mB.of ht hP⟩, hS.F ht⟩) hS.2.2 dX12_readOne_43
    · refine va_put (D := (dC, dI)) (ci := 11) (v := .int (nI n6)) (ty := .int) (C := RX12) (T := TX12) (N := 47) hx hb hts ii_X12_readOne tyX12 tyX12_ok nmX12 hown hK hP (mD hN _ _ _ _) hS 0 rfl rfl 13 (by decide) (hts _ mm_X12_readOne_3) (fun _ hh => hh) rfl (by decide +kernel) rfl rfl (Nat.le_of_ble_eq_true rfl) dX12_readOne_27 (fun H locs hP _ hS => ?_)
      have hP : va_P (dC, dI) vwCl (mw ar cy (up2 st 0 13 (nI n6)) sl) H := hP
      obtain ⟨st15, est15⟩ : ∃ y, y = up2 st 0 13 (nI n6) := ⟨_, rfl⟩
      have hG : MG [1, 2, 3, 6, 7, 8, 9, 10, 11, 12, 13, 14, 15, 20, 21, 22] st st15 := by rw [est15]; exact hG.up (rz (by decide : mr 0 13 = 0)) (pn (by decide : pcl 0 13 = 16) (by decide))
      rw [← est15] at hP
      have hF : FM 2 st sl st15 sl := by rw [est15]; exact hF.up (by decide)
      have hT : TM B g m p st15 sl := by rw [est15]; exact hT.up (by omega)
      have hR : RT c nm st15 sl := by rw [est15]; exact hR.up0 (by omega)
      refine lv_aload_n hx hb dX12_readOne_30 rfl (lv_at hl 0 rfl) ?_
      refine va_get (D := (dC, dI)) (ci := 11) (v := .int (st15 0 13)) (C := RX12) (T := TX12) (N := 47) hx hb hts ii_X12_readOne hown hK hP 0 rfl rfl 13 (by decide) (hts _ mm_X12_readOne_3) (fun _ hh => hh) rfl dX12_readOne_31 ?_
      refine zz_top (v := (nI n6)) (by show st15 0 13 = _; rw [est15, up2_same]) ?_
      refine lv_iconst (v := (-1)) hx hb dX12_readOne_34 (by decide) ?_
      refine lv_icmp_ne (tgt := 44) hx hb dX12_readOne_35 (by decide) (fun _ => ?_) (fun cc => absurd cc (nI_nem (by omega)))
      refine lv_aload_n hx hb dX12_readOne_44 rfl (lv_at hl 0 rfl) ?_
      refine va_callv (va_runV (As := []) (rest := []) ⟨hx, hb, hml, hown, hts⟩ (f_go l dC dI ar cy _ hN st15 sl B g m (tkx B g m p) hG.1 (MBt.fr hB hF) hT.1 hk2.2) (cwV 0 hts gX12_readOne_X12_go rfl rfl rfl (by decide +kernel) ⟨Nat.le_of_ble_eq_true rfl, Nat.le_of_ble_eq_true rfl⟩) ⟨fun a U g mk q => ⟨q.1, mPre.blind q.2⟩, va_recv hK hP (ci := 11) (q0 := 0) rfl rfl, fun U hU hW => ⟨rfl, mPre.of hP hK hU hW⟩⟩ rfl rfl hl.1 rfl (lv_room (Nat.le_of_ble_eq_true rfl)) dX12_readOne_45 ⟨Nat.le_of_ble_eq_true rfl, Nat.le_of_ble_eq_true rfl⟩) hS (fun q _ h => MA.le hS.1 q h) (MA.le hS.1) (fun x t H locs ht hvm hw hB9 _ _ hS => ?_)
      have hP := mB.at ht hB9
      clear hB9 ht hvm
      obtain ⟨st17, sl18⟩ := x
      obtain ⟨hG2, hF2, hw⟩ := hw
      dsimp only at hG2 hF2 hw
      have hP : va_P (dC, dI) vwCl (mw ar cy st17 sl18) _ := hP
      have hG : MG [1, 2, 3, 6, 7, 8, 9, 10, 11, 12, 13, 14, 15, 20, 21, 22] st st17 := hG.tr hG2 (by decide)
      have hFst17 : FM 1 st15 sl st17 sl18 := hF2
      have hF : FM 2 st sl st17 sl18 := hF.tr hFst17 (by omega) (by omega)
      clear hG2 hF2
      have hR : RT c nm st17 sl18 := hR.fr hFst17 (by omega)
      have hT := hw
      have hp9 := hT.2.2.2.2.2.2
      have hk1 := tkd_lt (B := B) (g := g) (m := m) (p := (tkx B g m p))
      have hk2 := tkx_le (B := B) (g := g) (m := m) (p := (tkx B g m p)) hp9
      have hk3 := tka_le (B := B) (g := g) (m := m) (p := (tkx B g m p)) hp9 hB.2.2.1
      have hk4 := tkv_lt (p := (tkx B g m p)) hB hp9
      have hk5 := tkw_lt (B := B) (g := g) (m := m) (p := (tkx B g m p))
      refine lv_iconst (v := 1) hx hb dX12_readOne_48 (by decide) ?_
      exact W.zret (v := 1) hx hb hr rfl (fun t ht hW => ⟨⟨1, (st17, sl18), rfl, ⟨hG, hF, Or.inl (⟨n6, rfl, by omega, by show st17 0 13 = _; rw [(hFst17 0 13 (by decide)).1, est15, up2_same], hT, fun k => by unfold eOne; rw [if_neg (by omega), if_neg (by rw [knw_t (n := c 1) (i := n6) (show n6 < c 1 by omega) (hR0.kn (a := 1) (by decide) (show n6 < c 1 by omega) (tkc_V (m := m) (by omega) hB1 (by omega)) (hf8.trans (hT0.2.2.2.2.2.1 (by omega))))]; decide)], by show st17 0 10 = st 0 10; rw [(hFst17 0 10 (by decide)).1, est15, up2_ne (r := 0) (k := 13) (a := 0) (j := 10) _ _ (by omega)]⟩)⟩, mB.of ht hP⟩, hS.F ht⟩) hS.2.2 dX12_readOne_49
  · refine lv_if_ne (tgt := 13) hx hb dX12_readOne_4 (by decide) (fun cc => absurd (by decide) cc) (fun _ => ?_)
    refine lv_aload_n hx hb dX12_readOne_7 rfl (lv_at hl 0 rfl) ?_
    refine lv_iconst (v := 1) hx hb dX12_readOne_8 (by decide) ?_
    refine va_calli (va_runV (As := [.int 1]) (rest := []) ⟨hx, hb, hml, hown, hts⟩ (f_bad l dC dI ar cy _ hN st sl 1 B g m p (by omega) hG.1 (MBt.fr hB hF) hT) (cwV 1 hts gX12_readOne_X12_bad rfl rfl rfl (by decide +kernel) ⟨Nat.le_of_ble_eq_true rfl, Nat.le_of_ble_eq_true rfl⟩) ⟨fun a U g mk q => ⟨q.1, mPre.blind q.2⟩, va_recv hK hP (ci := 11) (q0 := 0) rfl rfl, fun U hU hW => ⟨rfl, mPre.of hP hK hU hW⟩⟩ rfl rfl hl.1 rfl (lv_room (Nat.le_of_ble_eq_true rfl)) dX12_readOne_9 ⟨Nat.le_of_ble_eq_true rfl, Nat.le_of_ble_eq_true rfl⟩) hS (fun q _ h => MA.le hS.1 q h) (MA.le hS.1) (fun r19 x t H locs ht hvm hw hB9 _ _ hS => ?_)
    have hP := mB.at ht hB9
    clear hB9 ht hvm
    obtain ⟨st20, sl21⟩ := x
    obtain ⟨hG2, hF2, hw⟩ := hw
    dsimp only at hG2 hF2 hw
    have hP : va_P (dC, dI) vwCl (mw ar cy st20 sl21) _ := hP
    have hG : MG [1, 2, 3, 6, 7, 8, 9, 10, 11, 12, 13, 14, 15, 20, 21, 22] st st20 := hG.tr hG2 (by decide)
    have hFst20 : FM 2 st sl st20 sl21 := hF2
    have hF : FM 2 st sl st20 sl21 := hF.tr hFst20 (by omega) (by omega)
    clear hG2 hF2
    have hR : RT c nm st20 sl21 := hR.fr hFst20 (by omega)
    obtain ⟨rfl, hf22, hf23, hT⟩ := hw
    have hp9 := hT.2.2.2.2.2.2
    have hk1 := tkd_lt (B := B) (g := g) (m := m) (p := p)
    have hk2 := tkx_le (B := B) (g := g) (m := m) (p := p) hp9
    have hk3 := tka_le (B := B) (g := g) (m := m) (p := p) hp9 hB.2.2.1
    have hk4 := tkv_lt (p := p) hB hp9
    have hk5 := tkw_lt (B := B) (g := g) (m := m) (p := p)
    exact W.zret (v := 0) hx hb hr rfl (fun t ht hW => ⟨⟨0, (st20, sl21), rfl, ⟨hG, hF, Or.inr (⟨1, (tka B g m p), rfl, by show st20 0 10 = _; rw [hf22, bdk_1], by show st20 0 11 = _; rw [hf23], by omega, fun k => by unfold eOne; rw [if_pos (by omega)]⟩)⟩, mB.of ht hP⟩, hS.F ht⟩) hS.2.2 dX12_readOne_12
set_option maxHeartbeats 4000000 in
set_option maxRecDepth 100000 in
theorem f_readFirst0 (l : Launch) (dC : Nat → ClassId) (dI : Nat → Nat → Nat) (ar : Nat → Nat) (cy : Nat → ClassId) (sz : Nat) (hN : MN ar) (st : Nat → Nat → Int32) (sl : Nat → Nat → Int64) (B : Nat → Nat) (g m : Nat) (p : Nat) (c : Nat → Nat) (nm : Nat → Nat → Nat) (hI : MI st) (hB : MBt B g m st) (hT : TM B g m p st sl) (hR : RT c nm st sl) (hnw : ¬ tkd B g m p = 1) : Met l yX12_readFirst wsX12_readFirst ({ frames := 2, cells := 0, slots := 0, locals := 45 }) (va_Pc [.ref (ar 0), .int 0, .int 5] (mPre dC dI ar cy sz st sl)) (va_Qi (fun (r : Int32) (x : MT) => MG [1, 2, 3, 6, 7, 8, 9, 10, 11, 12, 13, 14, 15, 20, 21, 22] st x.1 ∧ FM 2 st sl x.1 x.2 ∧ ((r = 1 ∧ ¬ c 0 = 5 ∧ TM B g m (tkx B g m p) x.1 x.2 ∧ x.1 0 10 = st 0 10) ∨ (r = 0 ∧ c 0 = 5 ∧ x.1 0 10 = nI 4 ∧ x.1 0 11 = nI (tka B g m p)))) (mB dC dI ar cy) (MA ar sz)) 0 0 (MA ar sz) := by
  refine Met.ofW (cc := cX12_readFirst) (maxL := 3) (ret := (some .boolean)) (by decide) rfl ?_
  intro p9 e s m9 args below meth c9 s₁ B9 hml hv
  obtain ⟨rfl, hsz, hP, hK⟩ := hv
  have hx := B9.exec
  have hb := B9.bytes
  have hr := B9.returns
  have hts := atoms_spec (ws := wsX12_readFirst) B9.pre
  have hown : s.vm.findClass RX12 = some m9.cls := findClass_of_methodNamed B9.named
  subst hsz
  have hS : va_S (MA ar s.heap.size) s.heap s.heap [] := va_S.rf
  have hG : MG [1, 2, 3, 6, 7, 8, 9, 10, 11, 12, 13, 14, 15, 20, 21, 22] st st := MG.rf hI
  have hl := lv_entry ([.ref (ar 0), .int 0, .int 5]) (n := 3) (Nat.le_of_ble_eq_true rfl)
  rw [lg_entry_eq]
  generalize (lg_sl ([.ref (ar 0), .int 0, .int 5]) ++ List.replicate (3 - (lg_sl ([.ref (ar 0), .int 0, .int 5])).length) Slot.unset).toArray = ls at hl ⊢
  have hl : lv_has ls 3 [(0, .ref (ar 0)), (1, .int 0), (2, .int 5)] := hl
  clear hI
  have hB1 := hB.2.2.1
  have hB2 := hB.2.2.2.1
  have hF : FM 2 st sl st sl := FM.rf
  have hp9 := hT.2.2.2.2.2.2
  have hk1 := tkd_lt (B := B) (g := g) (m := m) (p := p)
  have hk2 := tkx_le (B := B) (g := g) (m := m) (p := p) hp9
  have hk3 := tka_le (B := B) (g := g) (m := m) (p := p) hp9 hB.2.2.1
  have hk4 := tkv_lt (p := p) hB hp9
  have hk5 := tkw_lt (B := B) (g := g) (m := m) (p := p)
  have hR9 := hR.2.2.2.2.2.1
  refine lv_aload_n hx hb dX12_readFirst_0 rfl (lv_at hl 0 rfl) ?_
  refine va_get (D := (dC, dI)) (ci := 11) (v := .ref (ar 3)) (C := RX12) (T := TX12) (N := 47) hx hb hts ii_X12_readFirst hown hK hP 0 rfl rfl 15 (by decide) (hts _ mm_X12_readFirst_1) (fun _ hh => hh) rfl dX12_readFirst_1 ?_
  refine lv_iload_n hx hb dX12_readFirst_4 rfl (lv_at hl 1 rfl) ?_
  refine va_iald hx hb hK hP 3 2 rfl rfl (i := 0) (zz_in (by decide)) dX12_readFirst_5 ?_
  refine zz_top (v := (nI (c 0))) (by show st 3 0 = _; rw [hR.1]) ?_
  refine lv_iload_n hx hb dX12_readFirst_6 rfl (lv_at hl 2 rfl) ?_
  refine lv_icmp_ne (tgt := 16) hx hb dX12_readFirst_7 (by decide) (fun c1 => ?_) (fun c1 => ?_)
  · have c1 : ¬ (c 0) = 5 := fun hh => c1 ((nI_eq (a := (c 0)) (b := 5) (by omega) (by omega)).mpr hh)
    refine lv_aload_n hx hb dX12_readFirst_16 rfl (lv_at hl 0 rfl) ?_
    refine va_callv (va_runV (As := []) (rest := []) ⟨hx, hb, hml, hown, hts⟩ (f_go l dC dI ar cy _ hN st sl B g m (tkx B g m p) hG.1 (MBt.fr hB hF) hT.1 hk2.2) (cwV 0 hts gX12_readFirst_X12_go rfl rfl rfl (by decide +kernel) ⟨Nat.le_of_ble_eq_true rfl, Nat.le_of_ble_eq_true rfl⟩) ⟨fun a U g mk q => ⟨q.1, mPre.blind q.2⟩, va_recv hK hP (ci := 11) (q0 := 0) rfl rfl, fun U hU hW => ⟨rfl, mPre.of hP hK hU hW⟩⟩ rfl rfl hl.1 rfl (lv_room (Nat.le_of_ble_eq_true rfl)) dX12_readFirst_17 ⟨Nat.le_of_ble_eq_true rfl, Nat.le_of_ble_eq_true rfl⟩) hS (fun q _ h => MA.le hS.1 q h) (MA.le hS.1) (fun x t H locs ht hvm hw hB9 _ _ hS => ?_)
    have hP := mB.at ht hB9
    clear hB9 ht hvm
    obtain ⟨st2, sl3⟩ := x
    obtain ⟨hG2, hF2, hw⟩ := hw
    dsimp only at hG2 hF2 hw
    have hP : va_P (dC, dI) vwCl (mw ar cy st2 sl3) _ := hP
    have hG : MG [1, 2, 3, 6, 7, 8, 9, 10, 11, 12, 13, 14, 15, 20, 21, 22] st st2 := hG.tr hG2 (by decide)
    have hFst2 : FM 1 st sl st2 sl3 := hF2
    have hF : FM 2 st sl st2 sl3 := hF.tr hFst2 (by omega) (by omega)
    clear hG2 hF2
    have hR : RT c nm st2 sl3 := hR.fr hFst2 (by omega)
    have hT := hw
    have hp9 := hT.2.2.2.2.2.2
    have hk1 := tkd_lt (B := B) (g := g) (m := m) (p := (tkx B g m p))
    have hk2 := tkx_le (B := B) (g := g) (m := m) (p := (tkx B g m p)) hp9
    have hk3 := tka_le (B := B) (g := g) (m := m) (p := (tkx B g m p)) hp9 hB.2.2.1
    have hk4 := tkv_lt (p := (tkx B g m p)) hB hp9
    have hk5 := tkw_lt (B := B) (g := g) (m := m) (p := (tkx B g m p))
    refine lv_iconst (v := 1) hx hb dX12_readFirst_20 (by decide) ?_
    exact W.zret (v := 1) hx hb hr rfl (fun t ht hW => ⟨⟨1, (st2, sl3), rfl, ⟨hG, hF, Or.inl (⟨rfl, by omega, hT, by show st2 0 10 = st 0 10; rw [(hFst2 0 10 (by decide)).1]⟩)⟩, mB.of ht hP⟩, hS.F ht⟩) hS.2.2 dX12_readFirst_21
  · have c1 : (c 0) = 5 := (nI_eq (a := (c 0)) (b := 5) (by omega) (by omega)).mp c1
    refine lv_aload_n hx hb dX12_readFirst_10 rfl (lv_at hl 0 rfl) ?_
    refine lv_iconst (v := 4) hx hb dX12_readFirst_11 (by decide) ?_
    refine va_calli (va_runV (As := [.int 4]) (rest := []) ⟨hx, hb, hml, hown, hts⟩ (f_bad l dC dI ar cy _ hN st sl 4 B g m p (by omega) hG.1 (MBt.fr hB hF) hT) (cwV 1 hts gX12_readFirst_X12_bad rfl rfl rfl (by decide +kernel) ⟨Nat.le_of_ble_eq_true rfl, Nat.le_of_ble_eq_true rfl⟩) ⟨fun a U g mk q => ⟨q.1, mPre.blind q.2⟩, va_recv hK hP (ci := 11) (q0 := 0) rfl rfl, fun U hU hW => ⟨rfl, mPre.of hP hK hU hW⟩⟩ rfl rfl hl.1 rfl (lv_room (Nat.le_of_ble_eq_true rfl)) dX12_readFirst_12 ⟨Nat.le_of_ble_eq_true rfl, Nat.le_of_ble_eq_true rfl⟩) hS (fun q _ h => MA.le hS.1 q h) (MA.le hS.1) (fun r4 x t H locs ht hvm hw hB9 _ _ hS => ?_)
    have hP := mB.at ht hB9
    clear hB9 ht hvm
    obtain ⟨st5, sl6⟩ := x
    obtain ⟨hG2, hF2, hw⟩ := hw
    dsimp only at hG2 hF2 hw
    have hP : va_P (dC, dI) vwCl (mw ar cy st5 sl6) _ := hP
    have hG : MG [1, 2, 3, 6, 7, 8, 9, 10, 11, 12, 13, 14, 15, 20, 21, 22] st st5 := hG.tr hG2 (by decide)
    have hFst5 : FM 2 st sl st5 sl6 := hF2
    have hF : FM 2 st sl st5 sl6 := hF.tr hFst5 (by omega) (by omega)
    clear hG2 hF2
    have hR : RT c nm st5 sl6 := hR.fr hFst5 (by omega)
    obtain ⟨rfl, hf7, hf8, hT⟩ := hw
    have hp9 := hT.2.2.2.2.2.2
    have hk1 := tkd_lt (B := B) (g := g) (m := m) (p := p)
    have hk2 := tkx_le (B := B) (g := g) (m := m) (p := p) hp9
    have hk3 := tka_le (B := B) (g := g) (m := m) (p := p) hp9 hB.2.2.1
    have hk4 := tkv_lt (p := p) hB hp9
    have hk5 := tkw_lt (B := B) (g := g) (m := m) (p := p)
    exact W.zret (v := 0) hx hb hr rfl (fun t ht hW => ⟨⟨0, (st5, sl6), rfl, ⟨hG, hF, Or.inr (⟨rfl, by omega, by show st5 0 10 = _; rw [hf7, bdk_n (by omega)], by show st5 0 11 = _; rw [hf8]⟩)⟩, mB.of ht hP⟩, hS.F ht⟩) hS.2.2 dX12_readFirst_15
set_option maxHeartbeats 4000000 in
set_option maxRecDepth 100000 in
theorem f_readFirst1 (l : Launch) (dC : Nat → ClassId) (dI : Nat → Nat → Nat) (ar : Nat → Nat) (cy : Nat → ClassId) (sz : Nat) (hN : MN ar) (st : Nat → Nat → Int32) (sl : Nat → Nat → Int64) (B : Nat → Nat) (g m : Nat) (p : Nat) (c : Nat → Nat) (nm : Nat → Nat → Nat) (hI : MI st) (hB : MBt B g m st) (hT : TM B g m p st sl) (hR : RT c nm st sl) (hnw : ¬ tkd B g m p = 1) : Met l yX12_readFirst wsX12_readFirst ({ frames := 2, cells := 0, slots := 0, locals := 45 }) (va_Pc [.ref (ar 0), .int 1, .int 8] (mPre dC dI ar cy sz st sl)) (va_Qi (fun (r : Int32) (x : MT) => MG [1, 2, 3, 6, 7, 8, 9, 10, 11, 12, 13, 14, 15, 20, 21, 22] st x.1 ∧ FM 2 st sl x.1 x.2 ∧ ((r = 1 ∧ ¬ c 1 = 8 ∧ TM B g m (tkx B g m p) x.1 x.2 ∧ x.1 0 10 = st 0 10) ∨ (r = 0 ∧ c 1 = 8 ∧ x.1 0 10 = nI 4 ∧ x.1 0 11 = nI (tka B g m p)))) (mB dC dI ar cy) (MA ar sz)) 0 0 (MA ar sz) := by
  refine Met.ofW (cc := cX12_readFirst) (maxL := 3) (ret := (some .boolean)) (by decide) rfl ?_
  intro p9 e s m9 args below meth c9 s₁ B9 hml hv
  obtain ⟨rfl, hsz, hP, hK⟩ := hv
  have hx := B9.exec
  have hb := B9.bytes
  have hr := B9.returns
  have hts := atoms_spec (ws := wsX12_readFirst) B9.pre
  have hown : s.vm.findClass RX12 = some m9.cls := findClass_of_methodNamed B9.named
  subst hsz
  have hS : va_S (MA ar s.heap.size) s.heap s.heap [] := va_S.rf
  have hG : MG [1, 2, 3, 6, 7, 8, 9, 10, 11, 12, 13, 14, 15, 20, 21, 22] st st := MG.rf hI
  have hl := lv_entry ([.ref (ar 0), .int 1, .int 8]) (n := 3) (Nat.le_of_ble_eq_true rfl)
  rw [lg_entry_eq]
  generalize (lg_sl ([.ref (ar 0), .int 1, .int 8]) ++ List.replicate (3 - (lg_sl ([.ref (ar 0), .int 1, .int 8])).length) Slot.unset).toArray = ls at hl ⊢
  have hl : lv_has ls 3 [(0, .ref (ar 0)), (1, .int 1), (2, .int 8)] := hl
  clear hI
  have hB1 := hB.2.2.1
  have hB2 := hB.2.2.2.1
  have hF : FM 2 st sl st sl := FM.rf
  have hp9 := hT.2.2.2.2.2.2
  have hk1 := tkd_lt (B := B) (g := g) (m := m) (p := p)
  have hk2 := tkx_le (B := B) (g := g) (m := m) (p := p) hp9
  have hk3 := tka_le (B := B) (g := g) (m := m) (p := p) hp9 hB.2.2.1
  have hk4 := tkv_lt (p := p) hB hp9
  have hk5 := tkw_lt (B := B) (g := g) (m := m) (p := p)
  have hR9 := hR.2.2.2.2.2.1
  refine lv_aload_n hx hb dX12_readFirst_0 rfl (lv_at hl 0 rfl) ?_
  refine va_get (D := (dC, dI)) (ci := 11) (v := .ref (ar 3)) (C := RX12) (T := TX12) (N := 47) hx hb hts ii_X12_readFirst hown hK hP 0 rfl rfl 15 (by decide) (hts _ mm_X12_readFirst_1) (fun _ hh => hh) rfl dX12_readFirst_1 ?_
  refine lv_iload_n hx hb dX12_readFirst_4 rfl (lv_at hl 1 rfl) ?_
  refine va_iald hx hb hK hP 3 2 rfl rfl (i := 1) (zz_in (by decide)) dX12_readFirst_5 ?_
  refine zz_top (v := (nI (c 1))) (by show st 3 1 = _; rw [hR.2.1]) ?_
  refine lv_iload_n hx hb dX12_readFirst_6 rfl (lv_at hl 2 rfl) ?_
  refine lv_icmp_ne (tgt := 16) hx hb dX12_readFirst_7 (by decide) (fun c1 => ?_) (fun c1 => ?_)
  · have c1 : ¬ (c 1) = 8 := fun hh => c1 ((nI_eq (a := (c 1)) (b := 8) (by omega) (by omega)).mpr hh)
    refine lv_aload_n hx hb dX12_readFirst_16 rfl (lv_at hl 0 rfl) ?_
    refine va_callv (va_runV (As := []) (rest := []) ⟨hx, hb, hml, hown, hts⟩ (f_go l dC dI ar cy _ hN st sl B g m (tkx B g m p) hG.1 (MBt.fr hB hF) hT.1 hk2.2) (cwV 0 hts gX12_readFirst_X12_go rfl rfl rfl (by decide +kernel) ⟨Nat.le_of_ble_eq_true rfl, Nat.le_of_ble_eq_true rfl⟩) ⟨fun a U g mk q => ⟨q.1, mPre.blind q.2⟩, va_recv hK hP (ci := 11) (q0 := 0) rfl rfl, fun U hU hW => ⟨rfl, mPre.of hP hK hU hW⟩⟩ rfl rfl hl.1 rfl (lv_room (Nat.le_of_ble_eq_true rfl)) dX12_readFirst_17 ⟨Nat.le_of_ble_eq_true rfl, Nat.le_of_ble_eq_true rfl⟩) hS (fun q _ h => MA.le hS.1 q h) (MA.le hS.1) (fun x t H locs ht hvm hw hB9 _ _ hS => ?_)
    have hP := mB.at ht hB9
    clear hB9 ht hvm
    obtain ⟨st2, sl3⟩ := x
    obtain ⟨hG2, hF2, hw⟩ := hw
    dsimp only at hG2 hF2 hw
    have hP : va_P (dC, dI) vwCl (mw ar cy st2 sl3) _ := hP
    have hG : MG [1, 2, 3, 6, 7, 8, 9, 10, 11, 12, 13, 14, 15, 20, 21, 22] st st2 := hG.tr hG2 (by decide)
    have hFst2 : FM 1 st sl st2 sl3 := hF2
    have hF : FM 2 st sl st2 sl3 := hF.tr hFst2 (by omega) (by omega)
    clear hG2 hF2
    have hR : RT c nm st2 sl3 := hR.fr hFst2 (by omega)
    have hT := hw
    have hp9 := hT.2.2.2.2.2.2
    have hk1 := tkd_lt (B := B) (g := g) (m := m) (p := (tkx B g m p))
    have hk2 := tkx_le (B := B) (g := g) (m := m) (p := (tkx B g m p)) hp9
    have hk3 := tka_le (B := B) (g := g) (m := m) (p := (tkx B g m p)) hp9 hB.2.2.1
    have hk4 := tkv_lt (p := (tkx B g m p)) hB hp9
    have hk5 := tkw_lt (B := B) (g := g) (m := m) (p := (tkx B g m p))
    refine lv_iconst (v := 1) hx hb dX12_readFirst_20 (by decide) ?_
    exact W.zret (v := 1) hx hb hr rfl (fun t ht hW => ⟨⟨1, (st2, sl3), rfl, ⟨hG, hF, Or.inl (⟨rfl, by omega, hT, by show st2 0 10 = st 0 10; rw [(hFst2 0 10 (by decide)).1]⟩)⟩, mB.of ht hP⟩, hS.F ht⟩) hS.2.2 dX12_readFirst_21
  · have c1 : (c 1) = 8 := (nI_eq (a := (c 1)) (b := 8) (by omega) (by omega)).mp c1
    refine lv_aload_n hx hb dX12_readFirst_10 rfl (lv_at hl 0 rfl) ?_
    refine lv_iconst (v := 4) hx hb dX12_readFirst_11 (by decide) ?_
    refine va_calli (va_runV (As := [.int 4]) (rest := []) ⟨hx, hb, hml, hown, hts⟩ (f_bad l dC dI ar cy _ hN st sl 4 B g m p (by omega) hG.1 (MBt.fr hB hF) hT) (cwV 1 hts gX12_readFirst_X12_bad rfl rfl rfl (by decide +kernel) ⟨Nat.le_of_ble_eq_true rfl, Nat.le_of_ble_eq_true rfl⟩) ⟨fun a U g mk q => ⟨q.1, mPre.blind q.2⟩, va_recv hK hP (ci := 11) (q0 := 0) rfl rfl, fun U hU hW => ⟨rfl, mPre.of hP hK hU hW⟩⟩ rfl rfl hl.1 rfl (lv_room (Nat.le_of_ble_eq_true rfl)) dX12_readFirst_12 ⟨Nat.le_of_ble_eq_true rfl, Nat.le_of_ble_eq_true rfl⟩) hS (fun q _ h => MA.le hS.1 q h) (MA.le hS.1) (fun r4 x t H locs ht hvm hw hB9 _ _ hS => ?_)
    have hP := mB.at ht hB9
    clear hB9 ht hvm
    obtain ⟨st5, sl6⟩ := x
    obtain ⟨hG2, hF2, hw⟩ := hw
    dsimp only at hG2 hF2 hw
    have hP : va_P (dC, dI) vwCl (mw ar cy st5 sl6) _ := hP
    have hG : MG [1, 2, 3, 6, 7, 8, 9, 10, 11, 12, 13, 14, 15, 20, 21, 22] st st5 := hG.tr hG2 (by decide)
    have hFst5 : FM 2 st sl st5 sl6 := hF2
    have hF : FM 2 st sl st5 sl6 := hF.tr hFst5 (by omega) (by omega)
    clear hG2 hF2
    have hR : RT c nm st5 sl6 := hR.fr hFst5 (by omega)
    obtain ⟨rfl, hf7, hf8, hT⟩ := hw
    have hp9 := hT.2.2.2.2.2.2
    have hk1 := tkd_lt (B := B) (g := g) (m := m) (p := p)
    have hk2 := tkx_le (B := B) (g := g) (m := m) (p := p) hp9
    have hk3 := tka_le (B := B) (g := g) (m := m) (p := p) hp9 hB.2.2.1
    have hk4 := tkv_lt (p := p) hB hp9
    have hk5 := tkw_lt (B := B) (g := g) (m := m) (p := p)
    exact W.zret (v := 0) hx hb hr rfl (fun t ht hW => ⟨⟨0, (st5, sl6), rfl, ⟨hG, hF, Or.inr (⟨rfl, by omega, by show st5 0 10 = _; rw [hf7, bdk_n (by omega)], by show st5 0 11 = _; rw [hf8]⟩)⟩, mB.of ht hP⟩, hS.F ht⟩) hS.2.2 dX12_readFirst_15
set_option maxHeartbeats 4000000 in
set_option maxRecDepth 100000 in
theorem f_readFirst2 (l : Launch) (dC : Nat → ClassId) (dI : Nat → Nat → Nat) (ar : Nat → Nat) (cy : Nat → ClassId) (sz : Nat) (hN : MN ar) (st : Nat → Nat → Int32) (sl : Nat → Nat → Int64) (B : Nat → Nat) (g m : Nat) (p : Nat) (c : Nat → Nat) (nm : Nat → Nat → Nat) (hI : MI st) (hB : MBt B g m st) (hT : TM B g m p st sl) (hR : RT c nm st sl) (hnw : ¬ tkd B g m p = 1) : Met l yX12_readFirst wsX12_readFirst ({ frames := 2, cells := 0, slots := 0, locals := 45 }) (va_Pc [.ref (ar 0), .int 2, .int 6] (mPre dC dI ar cy sz st sl)) (va_Qi (fun (r : Int32) (x : MT) => MG [1, 2, 3, 6, 7, 8, 9, 10, 11, 12, 13, 14, 15, 20, 21, 22] st x.1 ∧ FM 2 st sl x.1 x.2 ∧ ((r = 1 ∧ ¬ c 2 = 6 ∧ TM B g m (tkx B g m p) x.1 x.2 ∧ x.1 0 10 = st 0 10) ∨ (r = 0 ∧ c 2 = 6 ∧ x.1 0 10 = nI 4 ∧ x.1 0 11 = nI (tka B g m p)))) (mB dC dI ar cy) (MA ar sz)) 0 0 (MA ar sz) := by
  refine Met.ofW (cc := cX12_readFirst) (maxL := 3) (ret := (some .boolean)) (by decide) rfl ?_
  intro p9 e s m9 args below meth c9 s₁ B9 hml hv
  obtain ⟨rfl, hsz, hP, hK⟩ := hv
  have hx := B9.exec
  have hb := B9.bytes
  have hr := B9.returns
  have hts := atoms_spec (ws := wsX12_readFirst) B9.pre
  have hown : s.vm.findClass RX12 = some m9.cls := findClass_of_methodNamed B9.named
  subst hsz
  have hS : va_S (MA ar s.heap.size) s.heap s.heap [] := va_S.rf
  have hG : MG [1, 2, 3, 6, 7, 8, 9, 10, 11, 12, 13, 14, 15, 20, 21, 22] st st := MG.rf hI
  have hl := lv_entry ([.ref (ar 0), .int 2, .int 6]) (n := 3) (Nat.le_of_ble_eq_true rfl)
  rw [lg_entry_eq]
  generalize (lg_sl ([.ref (ar 0), .int 2, .int 6]) ++ List.replicate (3 - (lg_sl ([.ref (ar 0), .int 2, .int 6])).length) Slot.unset).toArray = ls at hl ⊢
  have hl : lv_has ls 3 [(0, .ref (ar 0)), (1, .int 2), (2, .int 6)] := hl
  clear hI
  have hB1 := hB.2.2.1
  have hB2 := hB.2.2.2.1
  have hF : FM 2 st sl st sl := FM.rf
  have hp9 := hT.2.2.2.2.2.2
  have hk1 := tkd_lt (B := B) (g := g) (m := m) (p := p)
  have hk2 := tkx_le (B := B) (g := g) (m := m) (p := p) hp9
  have hk3 := tka_le (B := B) (g := g) (m := m) (p := p) hp9 hB.2.2.1
  have hk4 := tkv_lt (p := p) hB hp9
  have hk5 := tkw_lt (B := B) (g := g) (m := m) (p := p)
  have hR9 := hR.2.2.2.2.2.1
  refine lv_aload_n hx hb dX12_readFirst_0 rfl (lv_at hl 0 rfl) ?_
  refine va_get (D := (dC, dI)) (ci := 11) (v := .ref (ar 3)) (C := RX12) (T := TX12) (N := 47) hx hb hts ii_X12_readFirst hown hK hP 0 rfl rfl 15 (by decide) (hts _ mm_X12_readFirst_1) (fun _ hh => hh) rfl dX12_readFirst_1 ?_
  refine lv_iload_n hx hb dX12_readFirst_4 rfl (lv_at hl 1 rfl) ?_
  refine va_iald hx hb hK hP 3 2 rfl rfl (i := 2) (zz_in (by decide)) dX12_readFirst_5 ?_
  refine zz_top (v := (nI (c 2))) (by show st 3 2 = _; rw [hR.2.2.1]) ?_
  refine lv_iload_n hx hb dX12_readFirst_6 rfl (lv_at hl 2 rfl) ?_
  refine lv_icmp_ne (tgt := 16) hx hb dX12_readFirst_7 (by decide) (fun c1 => ?_) (fun c1 => ?_)
  · have c1 : ¬ (c 2) = 6 := fun hh => c1 ((nI_eq (a := (c 2)) (b := 6) (by omega) (by omega)).mpr hh)
    refine lv_aload_n hx hb dX12_readFirst_16 rfl (lv_at hl 0 rfl) ?_
    refine va_callv (va_runV (As := []) (rest := []) ⟨hx, hb, hml, hown, hts⟩ (f_go l dC dI ar cy _ hN st sl B g m (tkx B g m p) hG.1 (MBt.fr hB hF) hT.1 hk2.2) (cwV 0 hts gX12_readFirst_X12_go rfl rfl rfl (by decide +kernel) ⟨Nat.le_of_ble_eq_true rfl, Nat.le_of_ble_eq_true rfl⟩) ⟨fun a U g mk q => ⟨q.1, mPre.blind q.2⟩, va_recv hK hP (ci := 11) (q0 := 0) rfl rfl, fun U hU hW => ⟨rfl, mPre.of hP hK hU hW⟩⟩ rfl rfl hl.1 rfl (lv_room (Nat.le_of_ble_eq_true rfl)) dX12_readFirst_17 ⟨Nat.le_of_ble_eq_true rfl, Nat.le_of_ble_eq_true rfl⟩) hS (fun q _ h => MA.le hS.1 q h) (MA.le hS.1) (fun x t H locs ht hvm hw hB9 _ _ hS => ?_)
    have hP := mB.at ht hB9
    clear hB9 ht hvm
    obtain ⟨st2, sl3⟩ := x
    obtain ⟨hG2, hF2, hw⟩ := hw
    dsimp only at hG2 hF2 hw
    have hP : va_P (dC, dI) vwCl (mw ar cy st2 sl3) _ := hP
    have hG : MG [1, 2, 3, 6, 7, 8, 9, 10, 11, 12, 13, 14, 15, 20, 21, 22] st st2 := hG.tr hG2 (by decide)
    have hFst2 : FM 1 st sl st2 sl3 := hF2
    have hF : FM 2 st sl st2 sl3 := hF.tr hFst2 (by omega) (by omega)
    clear hG2 hF2
    have hR : RT c nm st2 sl3 := hR.fr hFst2 (by omega)
    have hT := hw
    have hp9 := hT.2.2.2.2.2.2
    have hk1 := tkd_lt (B := B) (g := g) (m := m) (p := (tkx B g m p))
    have hk2 := tkx_le (B := B) (g := g) (m := m) (p := (tkx B g m p)) hp9
    have hk3 := tka_le (B := B) (g := g) (m := m) (p := (tkx B g m p)) hp9 hB.2.2.1
    have hk4 := tkv_lt (p := (tkx B g m p)) hB hp9
    have hk5 := tkw_lt (B := B) (g := g) (m := m) (p := (tkx B g m p))
    refine lv_iconst (v := 1) hx hb dX12_readFirst_20 (by decide) ?_
    exact W.zret (v := 1) hx hb hr rfl (fun t ht hW => ⟨⟨1, (st2, sl3), rfl, ⟨hG, hF, Or.inl (⟨rfl, by omega, hT, by show st2 0 10 = st 0 10; rw [(hFst2 0 10 (by decide)).1]⟩)⟩, mB.of ht hP⟩, hS.F ht⟩) hS.2.2 dX12_readFirst_21
  · have c1 : (c 2) = 6 := (nI_eq (a := (c 2)) (b := 6) (by omega) (by omega)).mp c1
    refine lv_aload_n hx hb dX12_readFirst_10 rfl (lv_at hl 0 rfl) ?_
    refine lv_iconst (v := 4) hx hb dX12_readFirst_11 (by decide) ?_
    refine va_calli (va_runV (As := [.int 4]) (rest := []) ⟨hx, hb, hml, hown, hts⟩ (f_bad l dC dI ar cy _ hN st sl 4 B g m p (by omega) hG.1 (MBt.fr hB hF) hT) (cwV 1 hts gX12_readFirst_X12_bad rfl rfl rfl (by decide +kernel) ⟨Nat.le_of_ble_eq_true rfl, Nat.le_of_ble_eq_true rfl⟩) ⟨fun a U g mk q => ⟨q.1, mPre.blind q.2⟩, va_recv hK hP (ci := 11) (q0 := 0) rfl rfl, fun U hU hW => ⟨rfl, mPre.of hP hK hU hW⟩⟩ rfl rfl hl.1 rfl (lv_room (Nat.le_of_ble_eq_true rfl)) dX12_readFirst_12 ⟨Nat.le_of_ble_eq_true rfl, Nat.le_of_ble_eq_true rfl⟩) hS (fun q _ h => MA.le hS.1 q h) (MA.le hS.1) (fun r4 x t H locs ht hvm hw hB9 _ _ hS => ?_)
    have hP := mB.at ht hB9
    clear hB9 ht hvm
    obtain ⟨st5, sl6⟩ := x
    obtain ⟨hG2, hF2, hw⟩ := hw
    dsimp only at hG2 hF2 hw
    have hP : va_P (dC, dI) vwCl (mw ar cy st5 sl6) _ := hP
    have hG : MG [1, 2, 3, 6, 7, 8, 9, 10, 11, 12, 13, 14, 15, 20, 21, 22] st st5 := hG.tr hG2 (by decide)
    have hFst5 : FM 2 st sl st5 sl6 := hF2
    have hF : FM 2 st sl st5 sl6 := hF.tr hFst5 (by omega) (by omega)
    clear hG2 hF2
    have hR : RT c nm st5 sl6 := hR.fr hFst5 (by omega)
    obtain ⟨rfl, hf7, hf8, hT⟩ := hw
    have hp9 := hT.2.2.2.2.2.2
    have hk1 := tkd_lt (B := B) (g := g) (m := m) (p := p)
    have hk2 := tkx_le (B := B) (g := g) (m := m) (p := p) hp9
    have hk3 := tka_le (B := B) (g := g) (m := m) (p := p) hp9 hB.2.2.1
    have hk4 := tkv_lt (p := p) hB hp9
    have hk5 := tkw_lt (B := B) (g := g) (m := m) (p := p)
    exact W.zret (v := 0) hx hb hr rfl (fun t ht hW => ⟨⟨0, (st5, sl6), rfl, ⟨hG, hF, Or.inr (⟨rfl, by omega, by show st5 0 10 = _; rw [hf7, bdk_n (by omega)], by show st5 0 11 = _; rw [hf8]⟩)⟩, mB.of ht hP⟩, hS.F ht⟩) hS.2.2 dX12_readFirst_15
set_option maxHeartbeats 4000000 in
set_option maxRecDepth 100000 in
theorem f_readFirst3 (l : Launch) (dC : Nat → ClassId) (dI : Nat → Nat → Nat) (ar : Nat → Nat) (cy : Nat → ClassId) (sz : Nat) (hN : MN ar) (st : Nat → Nat → Int32) (sl : Nat → Nat → Int64) (B : Nat → Nat) (g m : Nat) (p : Nat) (c : Nat → Nat) (nm : Nat → Nat → Nat) (hI : MI st) (hB : MBt B g m st) (hT : TM B g m p st sl) (hR : RT c nm st sl) (hnw : ¬ tkd B g m p = 1) : Met l yX12_readFirst wsX12_readFirst ({ frames := 2, cells := 0, slots := 0, locals := 45 }) (va_Pc [.ref (ar 0), .int 3, .int 12] (mPre dC dI ar cy sz st sl)) (va_Qi (fun (r : Int32) (x : MT) => MG [1, 2, 3, 6, 7, 8, 9, 10, 11, 12, 13, 14, 15, 20, 21, 22] st x.1 ∧ FM 2 st sl x.1 x.2 ∧ ((r = 1 ∧ ¬ c 3 = 12 ∧ TM B g m (tkx B g m p) x.1 x.2 ∧ x.1 0 10 = st 0 10) ∨ (r = 0 ∧ c 3 = 12 ∧ x.1 0 10 = nI 4 ∧ x.1 0 11 = nI (tka B g m p)))) (mB dC dI ar cy) (MA ar sz)) 0 0 (MA ar sz) := by
  refine Met.ofW (cc := cX12_readFirst) (maxL := 3) (ret := (some .boolean)) (by decide) rfl ?_
  intro p9 e s m9 args below meth c9 s₁ B9 hml hv
  obtain ⟨rfl, hsz, hP, hK⟩ := hv
  have hx := B9.exec
  have hb := B9.bytes
  have hr := B9.returns
  have hts := atoms_spec (ws := wsX12_readFirst) B9.pre
  have hown : s.vm.findClass RX12 = some m9.cls := findClass_of_methodNamed B9.named
  subst hsz
  have hS : va_S (MA ar s.heap.size) s.heap s.heap [] := va_S.rf
  have hG : MG [1, 2, 3, 6, 7, 8, 9, 10, 11, 12, 13, 14, 15, 20, 21, 22] st st := MG.rf hI
  have hl := lv_entry ([.ref (ar 0), .int 3, .int 12]) (n := 3) (Nat.le_of_ble_eq_true rfl)
  rw [lg_entry_eq]
  generalize (lg_sl ([.ref (ar 0), .int 3, .int 12]) ++ List.replicate (3 - (lg_sl ([.ref (ar 0), .int 3, .int 12])).length) Slot.unset).toArray = ls at hl ⊢
  have hl : lv_has ls 3 [(0, .ref (ar 0)), (1, .int 3), (2, .int 12)] := hl
  clear hI
  have hB1 := hB.2.2.1
  have hB2 := hB.2.2.2.1
  have hF : FM 2 st sl st sl := FM.rf
  have hp9 := hT.2.2.2.2.2.2
  have hk1 := tkd_lt (B := B) (g := g) (m := m) (p := p)
  have hk2 := tkx_le (B := B) (g := g) (m := m) (p := p) hp9
  have hk3 := tka_le (B := B) (g := g) (m := m) (p := p) hp9 hB.2.2.1
  have hk4 := tkv_lt (p := p) hB hp9
  have hk5 := tkw_lt (B := B) (g := g) (m := m) (p := p)
  have hR9 := hR.2.2.2.2.2.1
  refine lv_aload_n hx hb dX12_readFirst_0 rfl (lv_at hl 0 rfl) ?_
  refine va_get (D := (dC, dI)) (ci := 11) (v := .ref (ar 3)) (C := RX12) (T := TX12) (N := 47) hx hb hts ii_X12_readFirst hown hK hP 0 rfl rfl 15 (by decide) (hts _ mm_X12_readFirst_1) (fun _ hh => hh) rfl dX12_readFirst_1 ?_
  refine lv_iload_n hx hb dX12_readFirst_4 rfl (lv_at hl 1 rfl) ?_
  refine va_iald hx hb hK hP 3 2 rfl rfl (i := 3) (zz_in (by decide)) dX12_readFirst_5 ?_
  refine zz_top (v := (nI (c 3))) (by show st 3 3 = _; rw [hR.2.2.2.1]) ?_
  refine lv_iload_n hx hb dX12_readFirst_6 rfl (lv_at hl 2 rfl) ?_
  refine lv_icmp_ne (tgt := 16) hx hb dX12_readFirst_7 (by decide) (fun c1 => ?_) (fun c1 => ?_)
  · have c1 : ¬ (c 3) = 12 := fun hh => c1 ((nI_eq (a := (c 3)) (b := 12) (by omega) (by omega)).mpr hh)
    refine lv_aload_n hx hb dX12_readFirst_16 rfl (lv_at hl 0 rfl) ?_
    refine va_callv (va_runV (As := []) (rest := []) ⟨hx, hb, hml, hown, hts⟩ (f_go l dC dI ar cy _ hN st sl B g m (tkx B g m p) hG.1 (MBt.fr hB hF) hT.1 hk2.2) (cwV 0 hts gX12_readFirst_X12_go rfl rfl rfl (by decide +kernel) ⟨Nat.le_of_ble_eq_true rfl, Nat.le_of_ble_eq_true rfl⟩) ⟨fun a U g mk q => ⟨q.1, mPre.blind q.2⟩, va_recv hK hP (ci := 11) (q0 := 0) rfl rfl, fun U hU hW => ⟨rfl, mPre.of hP hK hU hW⟩⟩ rfl rfl hl.1 rfl (lv_room (Nat.le_of_ble_eq_true rfl)) dX12_readFirst_17 ⟨Nat.le_of_ble_eq_true rfl, Nat.le_of_ble_eq_true rfl⟩) hS (fun q _ h => MA.le hS.1 q h) (MA.le hS.1) (fun x t H locs ht hvm hw hB9 _ _ hS => ?_)
    have hP := mB.at ht hB9
    clear hB9 ht hvm
    obtain ⟨st2, sl3⟩ := x
    obtain ⟨hG2, hF2, hw⟩ := hw
    dsimp only at hG2 hF2 hw
    have hP : va_P (dC, dI) vwCl (mw ar cy st2 sl3) _ := hP
    have hG : MG [1, 2, 3, 6, 7, 8, 9, 10, 11, 12, 13, 14, 15, 20, 21, 22] st st2 := hG.tr hG2 (by decide)
    have hFst2 : FM 1 st sl st2 sl3 := hF2
    have hF : FM 2 st sl st2 sl3 := hF.tr hFst2 (by omega) (by omega)
    clear hG2 hF2
    have hR : RT c nm st2 sl3 := hR.fr hFst2 (by omega)
    have hT := hw
    have hp9 := hT.2.2.2.2.2.2
    have hk1 := tkd_lt (B := B) (g := g) (m := m) (p := (tkx B g m p))
    have hk2 := tkx_le (B := B) (g := g) (m := m) (p := (tkx B g m p)) hp9
    have hk3 := tka_le (B := B) (g := g) (m := m) (p := (tkx B g m p)) hp9 hB.2.2.1
    have hk4 := tkv_lt (p := (tkx B g m p)) hB hp9
    have hk5 := tkw_lt (B := B) (g := g) (m := m) (p := (tkx B g m p))
    refine lv_iconst (v := 1) hx hb dX12_readFirst_20 (by decide) ?_
    exact W.zret (v := 1) hx hb hr rfl (fun t ht hW => ⟨⟨1, (st2, sl3), rfl, ⟨hG, hF, Or.inl (⟨rfl, by omega, hT, by show st2 0 10 = st 0 10; rw [(hFst2 0 10 (by decide)).1]⟩)⟩, mB.of ht hP⟩, hS.F ht⟩) hS.2.2 dX12_readFirst_21
  · have c1 : (c 3) = 12 := (nI_eq (a := (c 3)) (b := 12) (by omega) (by omega)).mp c1
    refine lv_aload_n hx hb dX12_readFirst_10 rfl (lv_at hl 0 rfl) ?_
    refine lv_iconst (v := 4) hx hb dX12_readFirst_11 (by decide) ?_
    refine va_calli (va_runV (As := [.int 4]) (rest := []) ⟨hx, hb, hml, hown, hts⟩ (f_bad l dC dI ar cy _ hN st sl 4 B g m p (by omega) hG.1 (MBt.fr hB hF) hT) (cwV 1 hts gX12_readFirst_X12_bad rfl rfl rfl (by decide +kernel) ⟨Nat.le_of_ble_eq_true rfl, Nat.le_of_ble_eq_true rfl⟩) ⟨fun a U g mk q => ⟨q.1, mPre.blind q.2⟩, va_recv hK hP (ci := 11) (q0 := 0) rfl rfl, fun U hU hW => ⟨rfl, mPre.of hP hK hU hW⟩⟩ rfl rfl hl.1 rfl (lv_room (Nat.le_of_ble_eq_true rfl)) dX12_readFirst_12 ⟨Nat.le_of_ble_eq_true rfl, Nat.le_of_ble_eq_true rfl⟩) hS (fun q _ h => MA.le hS.1 q h) (MA.le hS.1) (fun r4 x t H locs ht hvm hw hB9 _ _ hS => ?_)
    have hP := mB.at ht hB9
    clear hB9 ht hvm
    obtain ⟨st5, sl6⟩ := x
    obtain ⟨hG2, hF2, hw⟩ := hw
    dsimp only at hG2 hF2 hw
    have hP : va_P (dC, dI) vwCl (mw ar cy st5 sl6) _ := hP
    have hG : MG [1, 2, 3, 6, 7, 8, 9, 10, 11, 12, 13, 14, 15, 20, 21, 22] st st5 := hG.tr hG2 (by decide)
    have hFst5 : FM 2 st sl st5 sl6 := hF2
    have hF : FM 2 st sl st5 sl6 := hF.tr hFst5 (by omega) (by omega)
    clear hG2 hF2
    have hR : RT c nm st5 sl6 := hR.fr hFst5 (by omega)
    obtain ⟨rfl, hf7, hf8, hT⟩ := hw
    have hp9 := hT.2.2.2.2.2.2
    have hk1 := tkd_lt (B := B) (g := g) (m := m) (p := p)
    have hk2 := tkx_le (B := B) (g := g) (m := m) (p := p) hp9
    have hk3 := tka_le (B := B) (g := g) (m := m) (p := p) hp9 hB.2.2.1
    have hk4 := tkv_lt (p := p) hB hp9
    have hk5 := tkw_lt (B := B) (g := g) (m := m) (p := p)
    exact W.zret (v := 0) hx hb hr rfl (fun t ht hW => ⟨⟨0, (st5, sl6), rfl, ⟨hG, hF, Or.inr (⟨rfl, by omega, by show st5 0 10 = _; rw [hf7, bdk_n (by omega)], by show st5 0 11 = _; rw [hf8]⟩)⟩, mB.of ht hP⟩, hS.F ht⟩) hS.2.2 dX12_readFirst_15
set_option maxHeartbeats 4000000 in
set_option maxRecDepth 100000 in
theorem f_put10 (l : Launch) (dC : Nat → ClassId) (dI : Nat → Nat → Nat) (ar : Nat → Nat) (cy : Nat → ClassId) (sz : Nat) (hN : MN ar) (st : Nat → Nat → Int32) (sl : Nat → Nat → Int64) (va : Nat) (B : Nat → Nat) (g m : Nat) (p : Nat) (c : Nat → Nat) (nm : Nat → Nat → Nat) (gv : Nat) (hlva : 10 ≤ va) (hva : va < 18) (hI : MI st) (hB : MBt B g m st) (hT : TM B g m p st sl) (hR : RT c nm st sl) (hgv : st 0 13 = nI gv) (hgv2 : gv < 5) : Met l yX12_put wsX12_put ({ frames := 0, cells := 0, slots := 0, locals := 0 }) (va_Pc [.ref (ar 0), .int (nI va), .int 1] (mPre dC dI ar cy sz st sl)) (va_Qi (fun (r : Int32) (x : MT) => MG [1, 2, 3, 6, 7, 8, 9, 10, 11, 12, 13, 14, 15, 20, 21, 22, 23] st x.1 ∧ FM 4 st sl x.1 x.2 ∧ (r = 1 ∧ x.2 = sl ∧ x.1 3 va = nI gv ∧ RT c nm x.1 x.2 ∧ TM B g m p x.1 x.2 ∧ x.1 0 10 = st 0 10)) (mB dC dI ar cy) (MA ar sz)) 0 0 (MA ar sz) := by
  refine Met.ofW (cc := cX12_put) (maxL := 3) (ret := (some .boolean)) (by decide) rfl ?_
  intro p9 e s m9 args below meth c9 s₁ B9 hml hv
  obtain ⟨rfl, hsz, hP, hK⟩ := hv
  have hx := B9.exec
  have hb := B9.bytes
  have hr := B9.returns
  have hts := atoms_spec (ws := wsX12_put) B9.pre
  have hown : s.vm.findClass RX12 = some m9.cls := findClass_of_methodNamed B9.named
  subst hsz
  have hS : va_S (MA ar s.heap.size) s.heap s.heap [] := va_S.rf
  have hG : MG [1, 2, 3, 6, 7, 8, 9, 10, 11, 12, 13, 14, 15, 20, 21, 22, 23] st st := MG.rf hI
  have hl := lv_entry ([.ref (ar 0), .int (nI va), .int 1]) (n := 3) (Nat.le_of_ble_eq_true rfl)
  rw [lg_entry_eq]
  generalize (lg_sl ([.ref (ar 0), .int (nI va), .int 1]) ++ List.replicate (3 - (lg_sl ([.ref (ar 0), .int (nI va), .int 1])).length) Slot.unset).toArray = ls at hl ⊢
  have hl : lv_has ls 3 [(0, .ref (ar 0)), (1, .int (nI va)), (2, .int 1)] := hl
  clear hI
  have hB1 := hB.2.2.1
  have hB2 := hB.2.2.2.1
  have hF : FM 4 st sl st sl := FM.rf
  have hp9 := hT.2.2.2.2.2.2
  have hk1 := tkd_lt (B := B) (g := g) (m := m) (p := p)
  have hk2 := tkx_le (B := B) (g := g) (m := m) (p := p) hp9
  have hk3 := tka_le (B := B) (g := g) (m := m) (p := p) hp9 hB.2.2.1
  have hk4 := tkv_lt (p := p) hB hp9
  have hk5 := tkw_lt (B := B) (g := g) (m := m) (p := p)
  have hR9 := hR.2.2.2.2.2.1
  refine lv_iload_n hx hb dX12_put_0 rfl (lv_at hl 2 rfl) ?_
  refine lv_if_eq (tgt := 14) hx hb dX12_put_1 (by decide) (fun cc => absurd cc (by decide)) (fun _ => ?_)
  refine lv_aload_n hx hb dX12_put_4 rfl (lv_at hl 0 rfl) ?_
  refine va_get (D := (dC, dI)) (ci := 11) (v := .ref (ar 3)) (C := RX12) (T := TX12) (N := 47) hx hb hts ii_X12_put hown hK hP 0 rfl rfl 15 (by decide) (hts _ mm_X12_put_1) (fun _ hh => hh) rfl dX12_put_5 ?_
  refine lv_iload_n hx hb dX12_put_8 rfl (lv_at hl 1 rfl) ?_
  refine lv_aload_n hx hb dX12_put_9 rfl (lv_at hl 0 rfl) ?_
  refine va_get (D := (dC, dI)) (ci := 11) (v := .int (st 0 13)) (C := RX12) (T := TX12) (N := 47) hx hb hts ii_X12_put hown hK hP 0 rfl rfl 13 (by decide) (hts _ mm_X12_put_2) (fun _ hh => hh) rfl dX12_put_10 ?_
  refine zz_top (v := (nI gv)) (by show st 0 13 = _; rw [hgv]) ?_
  refine va_iast hx hb hK hP (mD hN _ _ _ _) hS 3 2 rfl rfl (i := (nI va)) (vp_in_nI (by omega) (by decide)) dX12_put_13 (fun H locs hP _ hS => ?_)
  rw [nI_clamp (by omega)] at hP
  have hP : va_P (dC, dI) vwCl (mw ar cy (up2 st 3 va (nI gv)) sl) H := hP
  obtain ⟨st1, est1⟩ : ∃ y, y = up2 st 3 va (nI gv) := ⟨_, rfl⟩
  have hG : MG [1, 2, 3, 6, 7, 8, 9, 10, 11, 12, 13, 14, 15, 20, 21, 22, 23] st st1 := by rw [est1]; exact hG.up (rn (n := gv) (mr_3_10_18 va (by omega) (by omega)) (by omega)) (pn (pcl_3_10_18 va (by omega) (by omega)) (by decide))
  rw [← est1] at hP
  have hF : FM 4 st sl st1 sl := by rw [est1]; exact hF.up (dm_read _)
  have hT : TM B g m p st1 sl := by rw [est1]; exact hT.up (by omega)
  have hR : RT c nm st1 sl := by rw [est1]; exact hR.up3 (by omega)
  refine lv_iload_n hx hb dX12_put_14 rfl (lv_at hl 2 rfl) ?_
  exact W.zret (v := 1) hx hb hr rfl (fun t ht hW => ⟨⟨1, (st1, sl), rfl, ⟨hG, hF, ⟨rfl, rfl, by show st1 3 va = _; rw [est1, up2_same], hR, hT, by show st1 0 10 = st 0 10; rw [est1, up2_ne (r := 3) (k := va) (a := 0) (j := 10) _ _ (by omega)]⟩⟩, mB.of ht hP⟩, hS.F ht⟩) hS.2.2 dX12_put_15
set_option maxHeartbeats 4000000 in
set_option maxRecDepth 100000 in
theorem f_put18 (l : Launch) (dC : Nat → ClassId) (dI : Nat → Nat → Nat) (ar : Nat → Nat) (cy : Nat → ClassId) (sz : Nat) (hN : MN ar) (st : Nat → Nat → Int32) (sl : Nat → Nat → Int64) (va : Nat) (B : Nat → Nat) (g m : Nat) (p : Nat) (c : Nat → Nat) (nm : Nat → Nat → Nat) (gv : Nat) (hlva : 18 ≤ va) (hva : va < 42) (hI : MI st) (hB : MBt B g m st) (hT : TM B g m p st sl) (hR : RT c nm st sl) (hgv : st 0 13 = nI gv) (hgv2 : gv < 1000) : Met l yX12_put wsX12_put ({ frames := 0, cells := 0, slots := 0, locals := 0 }) (va_Pc [.ref (ar 0), .int (nI va), .int 1] (mPre dC dI ar cy sz st sl)) (va_Qi (fun (r : Int32) (x : MT) => MG [1, 2, 3, 6, 7, 8, 9, 10, 11, 12, 13, 14, 15, 20, 21, 22, 23] st x.1 ∧ FM 4 st sl x.1 x.2 ∧ (r = 1 ∧ x.2 = sl ∧ x.1 3 va = nI gv ∧ RT c nm x.1 x.2 ∧ TM B g m p x.1 x.2 ∧ x.1 0 10 = st 0 10)) (mB dC dI ar cy) (MA ar sz)) 0 0 (MA ar sz) := by
  refine Met.ofW (cc := cX12_put) (maxL := 3) (ret := (some .boolean)) (by decide) rfl ?_
  intro p9 e s m9 args below meth c9 s₁ B9 hml hv
  obtain ⟨rfl, hsz, hP, hK⟩ := hv
  have hx := B9.exec
  have hb := B9.bytes
  have hr := B9.returns
  have hts := atoms_spec (ws := wsX12_put) B9.pre
  have hown : s.vm.findClass RX12 = some m9.cls := findClass_of_methodNamed B9.named
  subst hsz
  have hS : va_S (MA ar s.heap.size) s.heap s.heap [] := va_S.rf
  have hG : MG [1, 2, 3, 6, 7, 8, 9, 10, 11, 12, 13, 14, 15, 20, 21, 22, 23] st st := MG.rf hI
  have hl := lv_entry ([.ref (ar 0), .int (nI va), .int 1]) (n := 3) (Nat.le_of_ble_eq_true rfl)
  rw [lg_entry_eq]
  generalize (lg_sl ([.ref (ar 0), .int (nI va), .int 1]) ++ List.replicate (3 - (lg_sl ([.ref (ar 0), .int (nI va), .int 1])).length) Slot.unset).toArray = ls at hl ⊢
  have hl : lv_has ls 3 [(0, .ref (ar 0)), (1, .int (nI va)), (2, .int 1)] := hl
  clear hI
  have hB1 := hB.2.2.1
  have hB2 := hB.2.2.2.1
  have hF : FM 4 st sl st sl := FM.rf
  have hp9 := hT.2.2.2.2.2.2
  have hk1 := tkd_lt (B := B) (g := g) (m := m) (p := p)
  have hk2 := tkx_le (B := B) (g := g) (m := m) (p := p) hp9
  have hk3 := tka_le (B := B) (g := g) (m := m) (p := p) hp9 hB.2.2.1
  have hk4 := tkv_lt (p := p) hB hp9
  have hk5 := tkw_lt (B := B) (g := g) (m := m) (p := p)
  have hR9 := hR.2.2.2.2.2.1
  refine lv_iload_n hx hb dX12_put_0 rfl (lv_at hl 2 rfl) ?_
  refine lv_if_eq (tgt := 14) hx hb dX12_put_1 (by decide) (fun cc => absurd cc (by decide)) (fun _ => ?_)
  refine lv_aload_n hx hb dX12_put_4 rfl (lv_at hl 0 rfl) ?_
  refine va_get (D := (dC, dI)) (ci := 11) (v := .ref (ar 3)) (C := RX12) (T := TX12) (N := 47) hx hb hts ii_X12_put hown hK hP 0 rfl rfl 15 (by decide) (hts _ mm_X12_put_1) (fun _ hh => hh) rfl dX12_put_5 ?_
  refine lv_iload_n hx hb dX12_put_8 rfl (lv_at hl 1 rfl) ?_
  refine lv_aload_n hx hb dX12_put_9 rfl (lv_at hl 0 rfl) ?_
  refine va_get (D := (dC, dI)) (ci := 11) (v := .int (st 0 13)) (C := RX12) (T := TX12) (N := 47) hx hb hts ii_X12_put hown hK hP 0 rfl rfl 13 (by decide) (hts _ mm_X12_put_2) (fun _ hh => hh) rfl dX12_put_10 ?_
  refine zz_top (v := (nI gv)) (by show st 0 13 = _; rw [hgv]) ?_
  refine va_iast hx hb hK hP (mD hN _ _ _ _) hS 3 2 rfl rfl (i := (nI va)) (vp_in_nI (by omega) (by decide)) dX12_put_13 (fun H locs hP _ hS => ?_)
  rw [nI_clamp (by omega)] at hP
  have hP : va_P (dC, dI) vwCl (mw ar cy (up2 st 3 va (nI gv)) sl) H := hP
  obtain ⟨st1, est1⟩ : ∃ y, y = up2 st 3 va (nI gv) := ⟨_, rfl⟩
  have hG : MG [1, 2, 3, 6, 7, 8, 9, 10, 11, 12, 13, 14, 15, 20, 21, 22, 23] st st1 := by rw [est1]; exact hG.up (rz (mr_3_18_42 va (by omega) (by omega))) (pn (pcl_3_18_42 va (by omega) (by omega)) (by decide))
  rw [← est1] at hP
  have hF : FM 4 st sl st1 sl := by rw [est1]; exact hF.up (dm_read _)
  have hT : TM B g m p st1 sl := by rw [est1]; exact hT.up (by omega)
  have hR : RT c nm st1 sl := by rw [est1]; exact hR.up3 (by omega)
  refine lv_iload_n hx hb dX12_put_14 rfl (lv_at hl 2 rfl) ?_
  exact W.zret (v := 1) hx hb hr rfl (fun t ht hW => ⟨⟨1, (st1, sl), rfl, ⟨hG, hF, ⟨rfl, rfl, by show st1 3 va = _; rw [est1, up2_same], hR, hT, by show st1 0 10 = st 0 10; rw [est1, up2_ne (r := 3) (k := va) (a := 0) (j := 10) _ _ (by omega)]⟩⟩, mB.of ht hP⟩, hS.F ht⟩) hS.2.2 dX12_put_15
set_option maxHeartbeats 4000000 in
set_option maxRecDepth 100000 in
theorem f_put42 (l : Launch) (dC : Nat → ClassId) (dI : Nat → Nat → Nat) (ar : Nat → Nat) (cy : Nat → ClassId) (sz : Nat) (hN : MN ar) (st : Nat → Nat → Int32) (sl : Nat → Nat → Int64) (va : Nat) (B : Nat → Nat) (g m : Nat) (p : Nat) (c : Nat → Nat) (nm : Nat → Nat → Nat) (gv : Nat) (hlva : 42 ≤ va) (hva : va < 48) (hI : MI st) (hB : MBt B g m st) (hT : TM B g m p st sl) (hR : RT c nm st sl) (hgv : st 0 13 = nI gv) (hgv2 : gv < 8) : Met l yX12_put wsX12_put ({ frames := 0, cells := 0, slots := 0, locals := 0 }) (va_Pc [.ref (ar 0), .int (nI va), .int 1] (mPre dC dI ar cy sz st sl)) (va_Qi (fun (r : Int32) (x : MT) => MG [1, 2, 3, 6, 7, 8, 9, 10, 11, 12, 13, 14, 15, 20, 21, 22, 23] st x.1 ∧ FM 4 st sl x.1 x.2 ∧ (r = 1 ∧ x.2 = sl ∧ x.1 3 va = nI gv ∧ RT c nm x.1 x.2 ∧ TM B g m p x.1 x.2 ∧ x.1 0 10 = st 0 10)) (mB dC dI ar cy) (MA ar sz)) 0 0 (MA ar sz) := by
  refine Met.ofW (cc := cX12_put) (maxL := 3) (ret := (some .boolean)) (by decide) rfl ?_
  intro p9 e s m9 args below meth c9 s₁ B9 hml hv
  obtain ⟨rfl, hsz, hP, hK⟩ := hv
  have hx := B9.exec
  have hb := B9.bytes
  have hr := B9.returns
  have hts := atoms_spec (ws := wsX12_put) B9.pre
  have hown : s.vm.findClass RX12 = some m9.cls := findClass_of_methodNamed B9.named
  subst hsz
  have hS : va_S (MA ar s.heap.size) s.heap s.heap [] := va_S.rf
  have hG : MG [1, 2, 3, 6, 7, 8, 9, 10, 11, 12, 13, 14, 15, 20, 21, 22, 23] st st := MG.rf hI
  have hl := lv_entry ([.ref (ar 0), .int (nI va), .int 1]) (n := 3) (Nat.le_of_ble_eq_true rfl)
  rw [lg_entry_eq]
  generalize (lg_sl ([.ref (ar 0), .int (nI va), .int 1]) ++ List.replicate (3 - (lg_sl ([.ref (ar 0), .int (nI va), .int 1])).length) Slot.unset).toArray = ls at hl ⊢
  have hl : lv_has ls 3 [(0, .ref (ar 0)), (1, .int (nI va)), (2, .int 1)] := hl
  clear hI
  have hB1 := hB.2.2.1
  have hB2 := hB.2.2.2.1
  have hF : FM 4 st sl st sl := FM.rf
  have hp9 := hT.2.2.2.2.2.2
  have hk1 := tkd_lt (B := B) (g := g) (m := m) (p := p)
  have hk2 := tkx_le (B := B) (g := g) (m := m) (p := p) hp9
  have hk3 := tka_le (B := B) (g := g) (m := m) (p := p) hp9 hB.2.2.1
  have hk4 := tkv_lt (p := p) hB hp9
  have hk5 := tkw_lt (B := B) (g := g) (m := m) (p := p)
  have hR9 := hR.2.2.2.2.2.1
  refine lv_iload_n hx hb dX12_put_0 rfl (lv_at hl 2 rfl) ?_
  refine lv_if_eq (tgt := 14) hx hb dX12_put_1 (by decide) (fun cc => absurd cc (by decide)) (fun _ => ?_)
  refine lv_aload_n hx hb dX12_put_4 rfl (lv_at hl 0 rfl) ?_
  refine va_get (D := (dC, dI)) (ci := 11) (v := .ref (ar 3)) (C := RX12) (T := TX12) (N := 47) hx hb hts ii_X12_put hown hK hP 0 rfl rfl 15 (by decide) (hts _ mm_X12_put_1) (fun _ hh => hh) rfl dX12_put_5 ?_
  refine lv_iload_n hx hb dX12_put_8 rfl (lv_at hl 1 rfl) ?_
  refine lv_aload_n hx hb dX12_put_9 rfl (lv_at hl 0 rfl) ?_
  refine va_get (D := (dC, dI)) (ci := 11) (v := .int (st 0 13)) (C := RX12) (T := TX12) (N := 47) hx hb hts ii_X12_put hown hK hP 0 rfl rfl 13 (by decide) (hts _ mm_X12_put_2) (fun _ hh => hh) rfl dX12_put_10 ?_
  refine zz_top (v := (nI gv)) (by show st 0 13 = _; rw [hgv]) ?_
  refine va_iast hx hb hK hP (mD hN _ _ _ _) hS 3 2 rfl rfl (i := (nI va)) (vp_in_nI (by omega) (by decide)) dX12_put_13 (fun H locs hP _ hS => ?_)
  rw [nI_clamp (by omega)] at hP
  have hP : va_P (dC, dI) vwCl (mw ar cy (up2 st 3 va (nI gv)) sl) H := hP
  obtain ⟨st1, est1⟩ : ∃ y, y = up2 st 3 va (nI gv) := ⟨_, rfl⟩
  have hG : MG [1, 2, 3, 6, 7, 8, 9, 10, 11, 12, 13, 14, 15, 20, 21, 22, 23] st st1 := by rw [est1]; exact hG.up (rn (n := gv) (mr_3_42_48 va (by omega) (by omega)) (by omega)) (pn (pcl_3_42_48 va (by omega) (by omega)) (by decide))
  rw [← est1] at hP
  have hF : FM 4 st sl st1 sl := by rw [est1]; exact hF.up (dm_read _)
  have hT : TM B g m p st1 sl := by rw [est1]; exact hT.up (by omega)
  have hR : RT c nm st1 sl := by rw [est1]; exact hR.up3 (by omega)
  refine lv_iload_n hx hb dX12_put_14 rfl (lv_at hl 2 rfl) ?_
  exact W.zret (v := 1) hx hb hr rfl (fun t ht hW => ⟨⟨1, (st1, sl), rfl, ⟨hG, hF, ⟨rfl, rfl, by show st1 3 va = _; rw [est1, up2_same], hR, hT, by show st1 0 10 = st 0 10; rw [est1, up2_ne (r := 3) (k := va) (a := 0) (j := 10) _ _ (by omega)]⟩⟩, mB.of ht hP⟩, hS.F ht⟩) hS.2.2 dX12_put_15
set_option maxHeartbeats 4000000 in
set_option maxRecDepth 100000 in
theorem f_put48 (l : Launch) (dC : Nat → ClassId) (dI : Nat → Nat → Nat) (ar : Nat → Nat) (cy : Nat → ClassId) (sz : Nat) (hN : MN ar) (st : Nat → Nat → Int32) (sl : Nat → Nat → Int64) (va : Nat) (B : Nat → Nat) (g m : Nat) (p : Nat) (c : Nat → Nat) (nm : Nat → Nat → Nat) (gv : Nat) (hlva : 48 ≤ va) (hva : va < 54) (hI : MI st) (hB : MBt B g m st) (hT : TM B g m p st sl) (hR : RT c nm st sl) (hgv : st 0 13 = nI gv) (hgv2 : gv < 13) : Met l yX12_put wsX12_put ({ frames := 0, cells := 0, slots := 0, locals := 0 }) (va_Pc [.ref (ar 0), .int (nI va), .int 1] (mPre dC dI ar cy sz st sl)) (va_Qi (fun (r : Int32) (x : MT) => MG [1, 2, 3, 6, 7, 8, 9, 10, 11, 12, 13, 14, 15, 20, 21, 22, 23] st x.1 ∧ FM 4 st sl x.1 x.2 ∧ (r = 1 ∧ x.2 = sl ∧ x.1 3 va = nI gv ∧ RT c nm x.1 x.2 ∧ TM B g m p x.1 x.2 ∧ x.1 0 10 = st 0 10)) (mB dC dI ar cy) (MA ar sz)) 0 0 (MA ar sz) := by
  refine Met.ofW (cc := cX12_put) (maxL := 3) (ret := (some .boolean)) (by decide) rfl ?_
  intro p9 e s m9 args below meth c9 s₁ B9 hml hv
  obtain ⟨rfl, hsz, hP, hK⟩ := hv
  have hx := B9.exec
  have hb := B9.bytes
  have hr := B9.returns
  have hts := atoms_spec (ws := wsX12_put) B9.pre
  have hown : s.vm.findClass RX12 = some m9.cls := findClass_of_methodNamed B9.named
  subst hsz
  have hS : va_S (MA ar s.heap.size) s.heap s.heap [] := va_S.rf
  have hG : MG [1, 2, 3, 6, 7, 8, 9, 10, 11, 12, 13, 14, 15, 20, 21, 22, 23] st st := MG.rf hI
  have hl := lv_entry ([.ref (ar 0), .int (nI va), .int 1]) (n := 3) (Nat.le_of_ble_eq_true rfl)
  rw [lg_entry_eq]
  generalize (lg_sl ([.ref (ar 0), .int (nI va), .int 1]) ++ List.replicate (3 - (lg_sl ([.ref (ar 0), .int (nI va), .int 1])).length) Slot.unset).toArray = ls at hl ⊢
  have hl : lv_has ls 3 [(0, .ref (ar 0)), (1, .int (nI va)), (2, .int 1)] := hl
  clear hI
  have hB1 := hB.2.2.1
  have hB2 := hB.2.2.2.1
  have hF : FM 4 st sl st sl := FM.rf
  have hp9 := hT.2.2.2.2.2.2
  have hk1 := tkd_lt (B := B) (g := g) (m := m) (p := p)
  have hk2 := tkx_le (B := B) (g := g) (m := m) (p := p) hp9
  have hk3 := tka_le (B := B) (g := g) (m := m) (p := p) hp9 hB.2.2.1
  have hk4 := tkv_lt (p := p) hB hp9
  have hk5 := tkw_lt (B := B) (g := g) (m := m) (p := p)
  have hR9 := hR.2.2.2.2.2.1
  refine lv_iload_n hx hb dX12_put_0 rfl (lv_at hl 2 rfl) ?_
  refine lv_if_eq (tgt := 14) hx hb dX12_put_1 (by decide) (fun cc => absurd cc (by decide)) (fun _ => ?_)
  refine lv_aload_n hx hb dX12_put_4 rfl (lv_at hl 0 rfl) ?_
  refine va_get (D := (dC, dI)) (ci := 11) (v := .ref (ar 3)) (C := RX12) (T := TX12) (N := 47) hx hb hts ii_X12_put hown hK hP 0 rfl rfl 15 (by decide) (hts _ mm_X12_put_1) (fun _ hh => hh) rfl dX12_put_5 ?_
  refine lv_iload_n hx hb dX12_put_8 rfl (lv_at hl 1 rfl) ?_
  refine lv_aload_n hx hb dX12_put_9 rfl (lv_at hl 0 rfl) ?_
  refine va_get (D := (dC, dI)) (ci := 11) (v := .int (st 0 13)) (C := RX12) (T := TX12) (N := 47) hx hb hts ii_X12_put hown hK hP 0 rfl rfl 13 (by decide) (hts _ mm_X12_put_2) (fun _ hh => hh) rfl dX12_put_10 ?_
  refine zz_top (v := (nI gv)) (by show st 0 13 = _; rw [hgv]) ?_
  refine va_iast hx hb hK hP (mD hN _ _ _ _) hS 3 2 rfl rfl (i := (nI va)) (vp_in_nI (by omega) (by decide)) dX12_put_13 (fun H locs hP _ hS => ?_)
  rw [nI_clamp (by omega)] at hP
  have hP : va_P (dC, dI) vwCl (mw ar cy (up2 st 3 va (nI gv)) sl) H := hP
  obtain ⟨st1, est1⟩ : ∃ y, y = up2 st 3 va (nI gv) := ⟨_, rfl⟩
  have hG : MG [1, 2, 3, 6, 7, 8, 9, 10, 11, 12, 13, 14, 15, 20, 21, 22, 23] st st1 := by rw [est1]; exact hG.up (rn (n := gv) (mr_3_48_54 va (by omega) (by omega)) (by omega)) (pn (pcl_3_48_54 va (by omega) (by omega)) (by decide))
  rw [← est1] at hP
  have hF : FM 4 st sl st1 sl := by rw [est1]; exact hF.up (dm_read _)
  have hT : TM B g m p st1 sl := by rw [est1]; exact hT.up (by omega)
  have hR : RT c nm st1 sl := by rw [est1]; exact hR.up3 (by omega)
  refine lv_iload_n hx hb dX12_put_14 rfl (lv_at hl 2 rfl) ?_
  exact W.zret (v := 1) hx hb hr rfl (fun t ht hW => ⟨⟨1, (st1, sl), rfl, ⟨hG, hF, ⟨rfl, rfl, by show st1 3 va = _; rw [est1, up2_same], hR, hT, by show st1 0 10 = st 0 10; rw [est1, up2_ne (r := 3) (k := va) (a := 0) (j := 10) _ _ (by omega)]⟩⟩, mB.of ht hP⟩, hS.F ht⟩) hS.2.2 dX12_put_15
set_option maxHeartbeats 4000000 in
set_option maxRecDepth 100000 in
theorem f_put54 (l : Launch) (dC : Nat → ClassId) (dI : Nat → Nat → Nat) (ar : Nat → Nat) (cy : Nat → ClassId) (sz : Nat) (hN : MN ar) (st : Nat → Nat → Int32) (sl : Nat → Nat → Int64) (va : Nat) (B : Nat → Nat) (g m : Nat) (p : Nat) (c : Nat → Nat) (nm : Nat → Nat → Nat) (gv : Nat) (hlva : 54 ≤ va) (hva : va < 60) (hI : MI st) (hB : MBt B g m st) (hT : TM B g m p st sl) (hR : RT c nm st sl) (hgv : st 0 13 = nI gv) (hgv2 : gv < 1000) : Met l yX12_put wsX12_put ({ frames := 0, cells := 0, slots := 0, locals := 0 }) (va_Pc [.ref (ar 0), .int (nI va), .int 1] (mPre dC dI ar cy sz st sl)) (va_Qi (fun (r : Int32) (x : MT) => MG [1, 2, 3, 6, 7, 8, 9, 10, 11, 12, 13, 14, 15, 20, 21, 22, 23] st x.1 ∧ FM 4 st sl x.1 x.2 ∧ (r = 1 ∧ x.2 = sl ∧ x.1 3 va = nI gv ∧ RT c nm x.1 x.2 ∧ TM B g m p x.1 x.2 ∧ x.1 0 10 = st 0 10)) (mB dC dI ar cy) (MA ar sz)) 0 0 (MA ar sz) := by
  refine Met.ofW (cc := cX12_put) (maxL := 3) (ret := (some .boolean)) (by decide) rfl ?_
  intro p9 e s m9 args below meth c9 s₁ B9 hml hv
  obtain ⟨rfl, hsz, hP, hK⟩ := hv
  have hx := B9.exec
  have hb := B9.bytes
  have hr := B9.returns
  have hts := atoms_spec (ws := wsX12_put) B9.pre
  have hown : s.vm.findClass RX12 = some m9.cls := findClass_of_methodNamed B9.named
  subst hsz
  have hS : va_S (MA ar s.heap.size) s.heap s.heap [] := va_S.rf
  have hG : MG [1, 2, 3, 6, 7, 8, 9, 10, 11, 12, 13, 14, 15, 20, 21, 22, 23] st st := MG.rf hI
  have hl := lv_entry ([.ref (ar 0), .int (nI va), .int 1]) (n := 3) (Nat.le_of_ble_eq_true rfl)
  rw [lg_entry_eq]
  generalize (lg_sl ([.ref (ar 0), .int (nI va), .int 1]) ++ List.replicate (3 - (lg_sl ([.ref (ar 0), .int (nI va), .int 1])).length) Slot.unset).toArray = ls at hl ⊢
  have hl : lv_has ls 3 [(0, .ref (ar 0)), (1, .int (nI va)), (2, .int 1)] := hl
  clear hI
  have hB1 := hB.2.2.1
  have hB2 := hB.2.2.2.1
  have hF : FM 4 st sl st sl := FM.rf
  have hp9 := hT.2.2.2.2.2.2
  have hk1 := tkd_lt (B := B) (g := g) (m := m) (p := p)
  have hk2 := tkx_le (B := B) (g := g) (m := m) (p := p) hp9
  have hk3 := tka_le (B := B) (g := g) (m := m) (p := p) hp9 hB.2.2.1
  have hk4 := tkv_lt (p := p) hB hp9
  have hk5 := tkw_lt (B := B) (g := g) (m := m) (p := p)
  have hR9 := hR.2.2.2.2.2.1
  refine lv_iload_n hx hb dX12_put_0 rfl (lv_at hl 2 rfl) ?_
  refine lv_if_eq (tgt := 14) hx hb dX12_put_1 (by decide) (fun cc => absurd cc (by decide)) (fun _ => ?_)
  refine lv_aload_n hx hb dX12_put_4 rfl (lv_at hl 0 rfl) ?_
  refine va_get (D := (dC, dI)) (ci := 11) (v := .ref (ar 3)) (C := RX12) (T := TX12) (N := 47) hx hb hts ii_X12_put hown hK hP 0 rfl rfl 15 (by decide) (hts _ mm_X12_put_1) (fun _ hh => hh) rfl dX12_put_5 ?_
  refine lv_iload_n hx hb dX12_put_8 rfl (lv_at hl 1 rfl) ?_
  refine lv_aload_n hx hb dX12_put_9 rfl (lv_at hl 0 rfl) ?_
  refine va_get (D := (dC, dI)) (ci := 11) (v := .int (st 0 13)) (C := RX12) (T := TX12) (N := 47) hx hb hts ii_X12_put hown hK hP 0 rfl rfl 13 (by decide) (hts _ mm_X12_put_2) (fun _ hh => hh) rfl dX12_put_10 ?_
  refine zz_top (v := (nI gv)) (by show st 0 13 = _; rw [hgv]) ?_
  refine va_iast hx hb hK hP (mD hN _ _ _ _) hS 3 2 rfl rfl (i := (nI va)) (vp_in_nI (by omega) (by decide)) dX12_put_13 (fun H locs hP _ hS => ?_)
  rw [nI_clamp (by omega)] at hP
  have hP : va_P (dC, dI) vwCl (mw ar cy (up2 st 3 va (nI gv)) sl) H := hP
  obtain ⟨st1, est1⟩ : ∃ y, y = up2 st 3 va (nI gv) := ⟨_, rfl⟩
  have hG : MG [1, 2, 3, 6, 7, 8, 9, 10, 11, 12, 13, 14, 15, 20, 21, 22, 23] st st1 := by rw [est1]; exact hG.up (rz (mr_3_54_60 va (by omega) (by omega))) (pn (pcl_3_54_60 va (by omega) (by omega)) (by decide))
  rw [← est1] at hP
  have hF : FM 4 st sl st1 sl := by rw [est1]; exact hF.up (dm_read _)
  have hT : TM B g m p st1 sl := by rw [est1]; exact hT.up (by omega)
  have hR : RT c nm st1 sl := by rw [est1]; exact hR.up3 (by omega)
  refine lv_iload_n hx hb dX12_put_14 rfl (lv_at hl 2 rfl) ?_
  exact W.zret (v := 1) hx hb hr rfl (fun t ht hW => ⟨⟨1, (st1, sl), rfl, ⟨hG, hF, ⟨rfl, rfl, by show st1 3 va = _; rw [est1, up2_same], hR, hT, by show st1 0 10 = st 0 10; rw [est1, up2_ne (r := 3) (k := va) (a := 0) (j := 10) _ _ (by omega)]⟩⟩, mB.of ht hP⟩, hS.F ht⟩) hS.2.2 dX12_put_15
set_option maxHeartbeats 4000000 in
set_option maxRecDepth 100000 in
theorem f_put60 (l : Launch) (dC : Nat → ClassId) (dI : Nat → Nat → Nat) (ar : Nat → Nat) (cy : Nat → ClassId) (sz : Nat) (hN : MN ar) (st : Nat → Nat → Int32) (sl : Nat → Nat → Int64) (va : Nat) (B : Nat → Nat) (g m : Nat) (p : Nat) (c : Nat → Nat) (nm : Nat → Nat → Nat) (gv : Nat) (hlva : 60 ≤ va) (hva : va < 61) (hI : MI st) (hB : MBt B g m st) (hT : TM B g m p st sl) (hR : RT c nm st sl) (hgv : st 0 13 = nI gv) (hgv2 : gv < 13) : Met l yX12_put wsX12_put ({ frames := 0, cells := 0, slots := 0, locals := 0 }) (va_Pc [.ref (ar 0), .int (nI va), .int 1] (mPre dC dI ar cy sz st sl)) (va_Qi (fun (r : Int32) (x : MT) => MG [1, 2, 3, 6, 7, 8, 9, 10, 11, 12, 13, 14, 15, 20, 21, 22, 23] st x.1 ∧ FM 4 st sl x.1 x.2 ∧ (r = 1 ∧ x.2 = sl ∧ x.1 3 va = nI gv ∧ RT c nm x.1 x.2 ∧ TM B g m p x.1 x.2 ∧ x.1 0 10 = st 0 10)) (mB dC dI ar cy) (MA ar sz)) 0 0 (MA ar sz) := by
  refine Met.ofW (cc := cX12_put) (maxL := 3) (ret := (some .boolean)) (by decide) rfl ?_
  intro p9 e s m9 args below meth c9 s₁ B9 hml hv
  obtain ⟨rfl, hsz, hP, hK⟩ := hv
  have hx := B9.exec
  have hb := B9.bytes
  have hr := B9.returns
  have hts := atoms_spec (ws := wsX12_put) B9.pre
  have hown : s.vm.findClass RX12 = some m9.cls := findClass_of_methodNamed B9.named
  subst hsz
  have hS : va_S (MA ar s.heap.size) s.heap s.heap [] := va_S.rf
  have hG : MG [1, 2, 3, 6, 7, 8, 9, 10, 11, 12, 13, 14, 15, 20, 21, 22, 23] st st := MG.rf hI
  have hl := lv_entry ([.ref (ar 0), .int (nI va), .int 1]) (n := 3) (Nat.le_of_ble_eq_true rfl)
  rw [lg_entry_eq]
  generalize (lg_sl ([.ref (ar 0), .int (nI va), .int 1]) ++ List.replicate (3 - (lg_sl ([.ref (ar 0), .int (nI va), .int 1])).length) Slot.unset).toArray = ls at hl ⊢
  have hl : lv_has ls 3 [(0, .ref (ar 0)), (1, .int (nI va)), (2, .int 1)] := hl
  clear hI
  have hB1 := hB.2.2.1
  have hB2 := hB.2.2.2.1
  have hF : FM 4 st sl st sl := FM.rf
  have hp9 := hT.2.2.2.2.2.2
  have hk1 := tkd_lt (B := B) (g := g) (m := m) (p := p)
  have hk2 := tkx_le (B := B) (g := g) (m := m) (p := p) hp9
  have hk3 := tka_le (B := B) (g := g) (m := m) (p := p) hp9 hB.2.2.1
  have hk4 := tkv_lt (p := p) hB hp9
  have hk5 := tkw_lt (B := B) (g := g) (m := m) (p := p)
  have hR9 := hR.2.2.2.2.2.1
  refine lv_iload_n hx hb dX12_put_0 rfl (lv_at hl 2 rfl) ?_
  refine lv_if_eq (tgt := 14) hx hb dX12_put_1 (by decide) (fun cc => absurd cc (by decide)) (fun _ => ?_)
  refine lv_aload_n hx hb dX12_put_4 rfl (lv_at hl 0 rfl) ?_
  refine va_get (D := (dC, dI)) (ci := 11) (v := .ref (ar 3)) (C := RX12) (T := TX12) (N := 47) hx hb hts ii_X12_put hown hK hP 0 rfl rfl 15 (by decide) (hts _ mm_X12_put_1) (fun _ hh => hh) rfl dX12_put_5 ?_
  refine lv_iload_n hx hb dX12_put_8 rfl (lv_at hl 1 rfl) ?_
  refine lv_aload_n hx hb dX12_put_9 rfl (lv_at hl 0 rfl) ?_
  refine va_get (D := (dC, dI)) (ci := 11) (v := .int (st 0 13)) (C := RX12) (T := TX12) (N := 47) hx hb hts ii_X12_put hown hK hP 0 rfl rfl 13 (by decide) (hts _ mm_X12_put_2) (fun _ hh => hh) rfl dX12_put_10 ?_
  refine zz_top (v := (nI gv)) (by show st 0 13 = _; rw [hgv]) ?_
  refine va_iast hx hb hK hP (mD hN _ _ _ _) hS 3 2 rfl rfl (i := (nI va)) (vp_in_nI (by omega) (by decide)) dX12_put_13 (fun H locs hP _ hS => ?_)
  rw [nI_clamp (by omega)] at hP
  have hP : va_P (dC, dI) vwCl (mw ar cy (up2 st 3 va (nI gv)) sl) H := hP
  obtain ⟨st1, est1⟩ : ∃ y, y = up2 st 3 va (nI gv) := ⟨_, rfl⟩
  have hG : MG [1, 2, 3, 6, 7, 8, 9, 10, 11, 12, 13, 14, 15, 20, 21, 22, 23] st st1 := by rw [est1]; exact hG.up (rn (n := gv) (mr_3_60_61 va (by omega) (by omega)) (by omega)) (pn (pcl_3_60_61 va (by omega) (by omega)) (by decide))
  rw [← est1] at hP
  have hF : FM 4 st sl st1 sl := by rw [est1]; exact hF.up (dm_read _)
  have hT : TM B g m p st1 sl := by rw [est1]; exact hT.up (by omega)
  have hR : RT c nm st1 sl := by rw [est1]; exact hR.up3 (by omega)
  refine lv_iload_n hx hb dX12_put_14 rfl (lv_at hl 2 rfl) ?_
  exact W.zret (v := 1) hx hb hr rfl (fun t ht hW => ⟨⟨1, (st1, sl), rfl, ⟨hG, hF, ⟨rfl, rfl, by show st1 3 va = _; rw [est1, up2_same], hR, hT, by show st1 0 10 = st 0 10; rw [est1, up2_ne (r := 3) (k := va) (a := 0) (j := 10) _ _ (by omega)]⟩⟩, mB.of ht hP⟩, hS.F ht⟩) hS.2.2 dX12_put_15
set_option maxHeartbeats 4000000 in
set_option maxRecDepth 100000 in
theorem f_putF (l : Launch) (dC : Nat → ClassId) (dI : Nat → Nat → Nat) (ar : Nat → Nat) (cy : Nat → ClassId) (sz : Nat) (hN : MN ar) (st : Nat → Nat → Int32) (sl : Nat → Nat → Int64) (va : Nat) (hva : va < 61) (hI : MI st) : Met l yX12_put wsX12_put ({ frames := 0, cells := 0, slots := 0, locals := 0 }) (va_Pc [.ref (ar 0), .int (nI va), .int 0] (mPre dC dI ar cy sz st sl)) (va_Qi (fun (r : Int32) (x : MT) => x = (st, sl) ∧ (r = 0)) (mB dC dI ar cy) (MA ar sz)) 0 0 (MA ar sz) := by
  refine Met.ofW (cc := cX12_put) (maxL := 3) (ret := (some .boolean)) (by decide) rfl ?_
  intro p9 e s m9 args below meth c9 s₁ B9 hml hv
  obtain ⟨rfl, hsz, hP, hK⟩ := hv
  have hx := B9.exec
  have hb := B9.bytes
  have hr := B9.returns
  have hts := atoms_spec (ws := wsX12_put) B9.pre
  have hown : s.vm.findClass RX12 = some m9.cls := findClass_of_methodNamed B9.named
  subst hsz
  have hS : va_S (MA ar s.heap.size) s.heap s.heap [] := va_S.rf
  have hG : MG [1, 2, 3, 4, 5, 6, 7, 8, 9, 10, 11, 12, 13, 14, 15, 16, 17, 19, 20, 21, 22, 23] st st := MG.rf hI
  have hl := lv_entry ([.ref (ar 0), .int (nI va), .int 0]) (n := 3) (Nat.le_of_ble_eq_true rfl)
  rw [lg_entry_eq]
  generalize (lg_sl ([.ref (ar 0), .int (nI va), .int 0]) ++ List.replicate (3 - (lg_sl ([.ref (ar 0), .int (nI va), .int 0])).length) Slot.unset).toArray = ls at hl ⊢
  have hl : lv_has ls 3 [(0, .ref (ar 0)), (1, .int (nI va)), (2, .int 0)] := hl
  clear hI
  refine lv_iload_n hx hb dX12_put_0 rfl (lv_at hl 2 rfl) ?_
  refine lv_if_eq (tgt := 14) hx hb dX12_put_1 (by decide) (fun _ => ?_) (fun cc => absurd (by decide) cc)
  refine lv_iload_n hx hb dX12_put_14 rfl (lv_at hl 2 rfl) ?_
  exact W.zret (v := 0) hx hb hr rfl (fun t ht hW => ⟨⟨0, (st, sl), rfl, ⟨rfl, rfl⟩, mB.of ht hP⟩, hS.F ht⟩) hS.2.2 dX12_put_15
