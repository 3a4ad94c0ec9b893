set_option maxHeartbeats 4000000 in
set_option maxRecDepth 100000 in
theorem f_book (l : Launch) (dC : Nat → ClassId) (dI : Nat → Nat → Nat) (ar : Nat → Nat) (cy : Nat → ClassId) (sz : Nat) (hN : MN ar) (st : Nat → Nat → Int32) (sl : Nat → Nat → Int64) (va : Int32) (B : Nat → Nat) (g : Nat) (c : Nat → Nat) (nm : Nat → Nat → Nat) (hI : MI st) (ht : st 0 2 = nI g) (hg : g < 941) (hbt : ∀ j, j < g → st 1 j = nI (B j) ∧ B j < 256) (hRN : RN c nm st sl) : Met l yX12_book wsX12_book ({ frames := 8, cells := 0, slots := 0, locals := 182 }) (va_Pc [.ref (ar 0), .int va] (mPre dC dI ar cy sz st sl)) (va_Qi (fun (r : Int32) (x : MT) => MG [2, 6, 7, 8, 9, 10, 11, 12, 15, 20, 21, 22] st x.1 ∧ (((va = 0 ∨ va = 1) ∧ x.1 0 10 = nI (bBk B g 400 c nm 41 0 0).1) ∨ ((¬ (va = 0 ∨ va = 1)) ∧ x.1 0 10 = st 0 10))) (mB dC dI ar cy) (MA ar sz)) 0 0 (MA ar sz) := by
  refine Met.ofW (cc := cX12_book) (maxL := 4) (ret := (some .int)) (by decide) rfl ?_
  intro p9 e s m9 args below meth c9 s₁ B9 hml hv
  obtain ⟨rfl, hsz, hP, hK⟩ := hv
  have hx := B9.exec
  have hb := B9.bytes
  have hr := B9.returns
  have hts := atoms_spec (ws := wsX12_book) B9.pre
  have hown : s.vm.findClass RX12 = some m9.cls := findClass_of_methodNamed B9.named
  subst hsz
  have hS : va_S (MA ar s.heap.size) s.heap s.heap [] := va_S.rf
  have hG : MG [2, 6, 7, 8, 9, 10, 11, 12, 15, 20, 21, 22] st st := MG.rf hI
  have hl := lv_entry ([.ref (ar 0), .int va]) (n := 4) (Nat.le_of_ble_eq_true rfl)
  rw [lg_entry_eq]
  generalize (lg_sl ([.ref (ar 0), .int va]) ++ List.replicate (4 - (lg_sl ([.ref (ar 0), .int va])).length) Slot.unset).toArray = ls at hl ⊢
  have hl : lv_has ls 4 [(0, .ref (ar 0)), (1, .int va)] := hl
  clear hI
  refine lv_aload_n hx hb dX12_book_0 rfl (lv_at hl 0 rfl) ?_
  refine lv_iconst (v := 0) hx hb dX12_book_1 (by decide) ?_
  refine va_put (D := (dC, dI)) (ci := 11) (v := .int 0) (ty := .int) (C := RX12) (T := TX12) (N := 47) hx hb hts ii_X12_book tyX12 tyX12_ok nmX12 hown hK hP (mD hN _ _ _ _) hS 0 rfl rfl 0 (by decide) (hts _ mm_X12_book_1) (fun _ hh => hh) rfl (by decide +kernel) rfl rfl (Nat.le_of_ble_eq_true rfl) dX12_book_2 (fun H locs hP _ hS => ?_)
  have hP : va_P (dC, dI) vwCl (mw ar cy (up2 st 0 0 0) sl) H := hP
  obtain ⟨st1, est1⟩ : ∃ y, y = up2 st 0 0 0 := ⟨_, rfl⟩
  have hG : MG [2, 6, 7, 8, 9, 10, 11, 12, 15, 20, 21, 22] st st1 := by rw [est1]; exact hG.up (rz (by decide : mr 0 0 = 0)) (pn (by decide : pcl 0 0 = 0) (by decide))
  rw [← est1] at hP
  refine lv_iload_n hx hb dX12_book_5 rfl (lv_at hl 1 rfl) ?_
  refine lv_iconst (v := 0) hx hb dX12_book_6 (by decide) ?_
  refine lv_iconst (v := 1) hx hb dX12_book_7 (by decide) ?_
  refine va_calli (va_runS (As := [.int va, .int 0, .int 1]) (rest := []) ⟨hx, hb, hml, hown, hts⟩ (m_isInX l dC dI ar cy _ hN st1 sl va 0 1 hG.1 ) (va_cwS 3 hts gX12_book_X12_isIn rfl rfl rfl (by decide +kernel) ⟨Nat.le_of_ble_eq_true rfl, Nat.le_of_ble_eq_true rfl⟩) ⟨fun a U g mk q => ⟨q.1, mPre.blind q.2⟩, fun U hU hW => ⟨rfl, mPre.of hP hK hU hW⟩⟩ rfl rfl hl.1 rfl (lv_room (Nat.le_of_ble_eq_true rfl)) dX12_book_8 ⟨Nat.le_of_ble_eq_true rfl, Nat.le_of_ble_eq_true rfl⟩) hS (fun q _ h => MA.le hS.1 q h) (MA.le hS.1) (fun r2 x t H locs ht hvm hw hB9 _ _ hS => ?_)
  have hP := mB.at ht hB9
  clear hB9 ht hvm
  obtain ⟨rfl, hw⟩ := hw
  have hP : va_P (dC, dI) vwCl (mw ar cy st1 sl) _ := hP
  rcases hw with ⟨rfl, hf3, hf4⟩ | ⟨rfl, hf5⟩
  · refine lv_if_ne (tgt := 18) hx hb dX12_book_11 (by decide) (fun _ => ?_) (fun cc => absurd cc (by decide))
    refine lv_aload_n hx hb dX12_book_18 rfl (lv_at hl 0 rfl) ?_
    refine lv_sipush (v := 400) hx hb dX12_book_19 (by decide) ?_
    refine va_callv (va_runV (As := [.int 400]) (rest := []) ⟨hx, hb, hml, hown, hts⟩ (f_begin400 l dC dI ar cy _ hN st1 sl B g hG.1 (by show st1 0 2 = _; rw [est1, up2_ne (r := 0) (k := 0) (a := 0) (j := 2) _ _ (by omega), ht]) (hg) (by intro j hj; rw [est1, up2_ne (r := 0) (k := 0) (a := 1) (j := j) _ _ (by omega)]; exact hbt j hj)) (cwV 1 hts gX12_book_X12_begin rfl rfl rfl (by decide +kernel) ⟨Nat.le_of_ble_eq_true rfl, Nat.le_of_ble_eq_true rfl⟩) ⟨fun a U g mk q => ⟨q.1, mPre.blind q.2⟩, va_recv hK hP (ci := 11) (q0 := 0) rfl rfl, fun U hU hW => ⟨rfl, mPre.of hP hK hU hW⟩⟩ rfl rfl hl.1 rfl (lv_room (Nat.le_of_ble_eq_true rfl)) dX12_book_22 ⟨Nat.le_of_ble_eq_true rfl, Nat.le_of_ble_eq_true rfl⟩) hS (fun q _ h => MA.le hS.1 q h) (MA.le hS.1) (fun x t H locs ht hvm hw hB9 _ _ hS => ?_)
    have hP := mB.at ht hB9
    clear hB9 ht hvm
    obtain ⟨st7, sl8⟩ := x
    obtain ⟨hG2, hw⟩ := hw
    dsimp only at hG2 hw
    have hP : va_P (dC, dI) vwCl (mw ar cy st7 sl8) _ := hP
    have hG : MG [2, 6, 7, 8, 9, 10, 11, 12, 15, 20, 21, 22] st st7 := hG.tr hG2 (by decide)
    have hMst7 : MG [2, 6, 7, 8, 9, 10, 11, 12, 13, 14, 15, 20, 21, 22] st1 st7 := hG2
    clear hG2
    obtain ⟨hf9, hT, hf10, hf11, hf12⟩ := hw
    obtain ⟨m, hm⟩ : ∃ m : Nat, m = 400 := ⟨_, rfl⟩
    have hB : MBt B g m st7 := by rw [hm]; exact hf9
    have hT : TM B g m 0 st7 sl8 := by rw [hm]; exact hT
    have hB1 := hB.2.2.1
    have hB2 := hB.2.2.2.1
    have hF : FM 7 st7 sl8 st7 sl8 := FM.rf
    have hp9 := hT.2.2.2.2.2.2
    have hk1 := tkd_lt (B := B) (g := g) (m := m) (p := 0)
    have hk2 := tkx_le (B := B) (g := g) (m := m) (p := 0) hp9
    have hk3 := tka_le (B := B) (g := g) (m := m) (p := 0) hp9 hB.2.2.1
    have hk4 := tkv_lt (p := 0) hB hp9
    have hk5 := tkw_lt (B := B) (g := g) (m := m) (p := 0)
    have hR : RN c nm st7 sl8 := (RN.eq hRN (fun a ha => MG.c2 hMst7 (by decide) ha) (hf12 7 (by decide)))
    have hR9 := hR.2.1
    refine lv_aload_n hx hb dX12_book_25 rfl (lv_at hl 0 rfl) ?_
    refine lv_iconst (v := 0) hx hb dX12_book_26 (by decide) ?_
    refine va_put (D := (dC, dI)) (ci := 11) (v := .int 0) (ty := .int) (C := RX12) (T := TX12) (N := 47) hx hb hts ii_X12_book tyX12 tyX12_ok nmX12 hown hK hP (mD hN _ _ _ _) hS 0 rfl rfl 40 (by decide) (hts _ mm_X12_book_2) (fun _ hh => hh) rfl (by decide +kernel) rfl rfl (Nat.le_of_ble_eq_true rfl) dX12_book_27 (fun H locs hP _ hS => ?_)
    have hP : va_P (dC, dI) vwCl (mw ar cy (up2 st7 0 40 0) sl8) H := hP
    obtain ⟨st13, est13⟩ : ∃ y, y = up2 st7 0 40 0 := ⟨_, rfl⟩
    have hG : MG [2, 6, 7, 8, 9, 10, 11, 12, 15, 20, 21, 22] st st13 := by rw [est13]; exact hG.up (r0) (pn (by decide : pcl 0 40 = 14) (by decide))
    rw [← est13] at hP
    have hF : FM 7 st7 sl8 st13 sl8 := by rw [est13]; exact hF.up (by decide)
    have hT : TM B g m 0 st13 sl8 := by rw [est13]; exact hT.up (by omega)
    have hR : RN c nm st13 sl8 := by rw [est13]; exact hR.up (by omega)
    refine zz_wf (fun n stk H locs ls => ∃ st14 : Nat → Nat → Int32, ∃ sl15 : Nat → Nat → Int64, ∃ n16 : Nat, n = 41 - n16 ∧ st14 0 40 = nI n16 ∧ (∃ (p7 : Nat), TM B g m p7 st14 sl15 ∧ RN c nm st14 sl15 ∧ bBk B g m c nm 41 0 0 = bBk B g m c nm (41 - n16) p7 n16) ∧ LI st14 n16 ∧ FM 7 st7 sl8 st14 sl15 ∧ st14 0 10 = st7 0 10 ∧ va_P (dC, dI) vwCl (mw ar cy st14 sl15) H ∧ MG [2, 6, 7, 8, 9, 10, 11, 12, 15, 20, 21, 22] st st14 ∧ va_S (MA ar s.heap.size) s.heap H locs ∧ lv_has ls 4 [(0, .ref (ar 0)), (1, .int va)] ∧ stk = []) ?_ (41 - 0) _ _ _ _ ⟨st13, sl8, 0, rfl, by rw [est13, up2_same]; rfl, ⟨0, hT, hR, rfl⟩, LI.zero _, hF, by show st13 0 10 = st7 0 10; rw [est13, up2_ne (r := 0) (k := 40) (a := 0) (j := 10) _ _ (by omega)], hP, hG, hS, lv_sub hl [0, 1] rfl, rfl⟩
    rintro nn stk H locs ls ⟨st14, sl15, n16, hm20, en16, hv17_0, hv18_1, hv19_2, hv20_3, hP, hG, hS, hl, rfl⟩ ih21
    have hF := hv19_2
    have hK10 := hv20_3
    obtain ⟨p7, hT, hR, hbk⟩ := hv17_0
    have hli := hv18_1
    have hp9 := hT.2.2.2.2.2.2
    have hk1 := tkd_lt (B := B) (g := g) (m := m) (p := p7)
    have hk2 := tkx_le (B := B) (g := g) (m := m) (p := p7) hp9
    have hk3 := tka_le (B := B) (g := g) (m := m) (p := p7) hp9 hB.2.2.1
    have hk4 := tkv_lt (p := p7) hB hp9
    have hk5 := tkw_lt (B := B) (g := g) (m := m) (p := p7)
    refine lv_aload_n hx hb dX12_book_30 rfl (lv_at hl 0 rfl) ?_
    refine va_get (D := (dC, dI)) (ci := 11) (v := .int (st14 0 7)) (C := RX12) (T := TX12) (N := 47) hx hb hts ii_X12_book hown hK hP 0 rfl rfl 7 (by decide) (hts _ mm_X12_book_3) (fun _ hh => hh) rfl dX12_book_31 ?_
    refine zz_top (v := (nI (tkd B g m p7))) (by show st14 0 7 = _; rw [hT.2.2.1]) ?_
    refine lv_if_eq (tgt := 65) hx hb dX12_book_34 (by decide) (fun c2 => ?_) (fun c2 => ?_)
    · have c2 : (tkd B g m p7) = 0 := (nI_eq (a := (tkd B g m p7)) (b := 0) (by omega) (by omega)).mp c2
      have h010 : st14 0 10 = 0 := by rw [hK10, hf10]
      have hres : bBk B g m c nm 41 0 0 = (0, p7, n16) := hbk.trans (bBk_0 (by omega))
      refine lv_aload_n hx hb dX12_book_65 rfl (lv_at hl 0 rfl) ?_
      refine va_callv (va_runV (As := []) (rest := []) ⟨hx, hb, hml, hown, hts⟩ (m_layAside l dC dI ar cy _ hN st14 sl15 hG.1 ) (cwV 0 hts gX12_book_X12_layAside rfl rfl rfl (by decide +kernel) ⟨Nat.le_of_ble_eq_true rfl, Nat.le_of_ble_eq_true rfl⟩) ⟨fun a U g mk q => ⟨q.1, mPre.blind q.2⟩, va_recv hK hP (ci := 11) (q0 := 0) rfl rfl, fun U hU hW => ⟨rfl, mPre.of hP hK hU hW⟩⟩ rfl rfl hl.1 rfl (lv_room (Nat.le_of_ble_eq_true rfl)) dX12_book_66 ⟨Nat.le_of_ble_eq_true rfl, Nat.le_of_ble_eq_true rfl⟩) hS (fun q _ h => MA.le hS.1 q h) (MA.le hS.1) (fun x t H locs ht hvm hw hB9 _ _ hS => ?_)
      have hP := mB.at ht hB9
      clear hB9 ht hvm
      obtain ⟨st23, sl24⟩ := x
      obtain ⟨hG2, hLxst23, hw⟩ := hw
      dsimp only at hG2 hw
      have hP : va_P (dC, dI) vwCl (mw ar cy st23 sl24) _ := hP
      have hG : MG [2, 6, 7, 8, 9, 10, 11, 12, 15, 20, 21, 22] st st23 := hG.tr hG2 (by decide)
      have hMst23 : MG [1, 2, 3, 4, 5, 6, 7, 8, 9, 10, 11, 12, 13, 14, 15, 16, 17, 19, 20, 21, 22, 23] st14 st23 := hG2
      clear hG2
      clear hw
      refine lv_iconst (v := 0) hx hb dX12_book_69 (by decide) ?_
      refine lv_istore_n (lv' := [(2, .int 0), (0, .ref (ar 0)), (1, .int va)]) hx hb dX12_book_70 rfl hl (by decide) rfl (fun ls hl => ?_)
      refine lv_iconst (v := 0) hx hb dX12_book_71 (by decide) ?_
      refine lv_istore_n (lv' := [(3, .int 0), (2, .int 0), (0, .ref (ar 0)), (1, .int va)]) hx hb dX12_book_72 rfl hl (by decide) rfl (fun ls hl => ?_)
      refine zz_wf (fun n stk H locs ls => ∃ z25 : Int32, ∃ k26 : Nat, ∃ st27 : Nat → Nat → Int32, ∃ sl28 : Nat → Nat → Int64, n = 2 * (41 - k26) + (if (z25 : Int32) = 0 then 1 else 0) ∧ 0 ≤ k26 ∧ k26 < 41 ∧ st27 0 10 = 0 ∧ st27 0 40 = nI n16 ∧ LI st27 n16 ∧ va_P (dC, dI) vwCl (mw ar cy st27 sl28) H ∧ MG [2, 6, 7, 8, 9, 10, 11, 12, 15, 20, 21, 22] st st27 ∧ va_S (MA ar s.heap.size) s.heap H locs ∧ lv_has ls 4 [(3, .int z25), (2, .int (nI k26)), (0, .ref (ar 0)), (1, .int va)] ∧ stk = []) ?_ (2 * (41 - 0) + (if (0 : Int32) = 0 then 1 else 0)) _ _ _ _ ⟨0, 0, st23, sl24, rfl, by omega, by omega, by show st23 0 10 = 0; rw [hMst23.2 0 10 (by decide), h010], by show st23 0 40 = _; rw [hMst23.2 0 40 (by decide), en16], (LI.mg hMst23 (by decide) hli), hP, hG, hS, lv_sub hl [0, 1, 2, 3] rfl, rfl⟩
      rintro nn stk H locs ls ⟨z25, k26, st27, sl28, hm33, hv29_0, hv30_1, hv31_0, hv32_1, hv33_2, hP, hG, hS, hl, rfl⟩ ih34
      refine lv_iload_n hx hb dX12_book_73 rfl (lv_at hl 1 rfl) ?_
      refine lv_aload_n hx hb dX12_book_74 rfl (lv_at hl 2 rfl) ?_
      refine va_get (D := (dC, dI)) (ci := 11) (v := .int (st27 0 40)) (C := RX12) (T := TX12) (N := 47) hx hb hts ii_X12_book hown hK hP 0 rfl rfl 40 (by decide) (hts _ mm_X12_book_2) (fun _ hh => hh) rfl dX12_book_75 ?_
      refine zz_top (v := (nI n16)) (by show st27 0 40 = _; rw [hv32_1]) ?_
      refine lv_icmp_ge (tgt := 103) hx hb dX12_book_78 (by decide) (fun c3 => ?_) (fun c3 => ?_)
      · have c3 : n16 ≤ k26 := (nI_leI (a := n16) (b := k26) (by omega) (by omega)).mp c3
        refine lv_aload_n hx hb dX12_book_103 rfl (lv_at hl 2 rfl) ?_
        refine va_get (D := (dC, dI)) (ci := 11) (v := .ref (ar 15)) (C := RX12) (T := TX12) (N := 47) hx hb hts ii_X12_book hown hK hP 0 rfl rfl 39 (by decide) (hts _ mm_X12_book_5) (fun _ hh => hh) rfl dX12_book_104 ?_
        refine lv_iconst (v := 0) hx hb dX12_book_107 (by decide) ?_
        refine lv_iload_n hx hb dX12_book_108 rfl (lv_at hl 0 rfl) ?_
        refine va_iast hx hb hK hP (mD hN _ _ _ _) hS 15 14 rfl rfl (i := 0) (zz_in (by decide)) dX12_book_109 (fun H locs hP _ hS => ?_)
        have hP : va_P (dC, dI) vwCl (mw ar cy (up2 st27 15 0 z25) sl28) H := hP
        obtain ⟨st35, est35⟩ : ∃ y, y = up2 st27 15 0 z25 := ⟨_, rfl⟩
        have hG : MG [2, 6, 7, 8, 9, 10, 11, 12, 15, 20, 21, 22] st st35 := by rw [est35]; exact hG.up (rz (by decide : mr 15 0 = 0)) (pn (by decide : pcl 15 0 = 0) (by decide))
        rw [← est35] at hP
        refine lv_aload_n hx hb dX12_book_110 rfl (lv_at hl 2 rfl) ?_
        refine va_get (D := (dC, dI)) (ci := 11) (v := .ref (ar 15)) (C := RX12) (T := TX12) (N := 47) hx hb hts ii_X12_book hown hK hP 0 rfl rfl 39 (by decide) (hts _ mm_X12_book_5) (fun _ hh => hh) rfl dX12_book_111 ?_
        refine lv_iconst (v := 1) hx hb dX12_book_114 (by decide) ?_
        refine lv_iload_n hx hb dX12_book_115 rfl (lv_at hl 1 rfl) ?_
        refine va_iast hx hb hK hP (mD hN _ _ _ _) hS 15 14 rfl rfl (i := 1) (zz_in (by decide)) dX12_book_116 (fun H locs hP _ hS => ?_)
        have hP : va_P (dC, dI) vwCl (mw ar cy (up2 st35 15 1 (nI k26)) sl28) H := hP
        obtain ⟨st36, est36⟩ : ∃ y, y = up2 st35 15 1 (nI k26) := ⟨_, rfl⟩
        have hG : MG [2, 6, 7, 8, 9, 10, 11, 12, 15, 20, 21, 22] st st36 := by rw [est36]; exact hG.up (rz (by decide : mr 15 1 = 0)) (pn (by decide : pcl 15 1 = 0) (by decide))
        rw [← est36] at hP
        refine lv_aload_n hx hb dX12_book_117 rfl (lv_at hl 2 rfl) ?_
        refine va_get (D := (dC, dI)) (ci := 11) (v := .ref (ar 15)) (C := RX12) (T := TX12) (N := 47) hx hb hts ii_X12_book hown hK hP 0 rfl rfl 39 (by decide) (hts _ mm_X12_book_5) (fun _ hh => hh) rfl dX12_book_118 ?_
        refine lv_iconst (v := 2) hx hb dX12_book_121 (by decide) ?_
        refine lv_aload_n hx hb dX12_book_122 rfl (lv_at hl 2 rfl) ?_
        refine va_get (D := (dC, dI)) (ci := 11) (v := .ref (ar 2)) (C := RX12) (T := TX12) (N := 47) hx hb hts ii_X12_book hown hK hP 0 rfl rfl 14 (by decide) (hts _ mm_X12_book_6) (fun _ hh => hh) rfl dX12_book_123 ?_
        refine lv_bipush (v := 61) hx hb dX12_book_126 (by decide) ?_
        refine va_iald hx hb hK hP 2 1 rfl rfl (i := 61) (zz_in (by decide)) dX12_book_128 ?_
        refine lv_topi (fun z37 ez37 => ?_)
        refine va_iast hx hb hK hP (mD hN _ _ _ _) hS 15 14 rfl rfl (i := 2) (zz_in (by decide)) dX12_book_129 (fun H locs hP _ hS => ?_)
        have hP : va_P (dC, dI) vwCl (mw ar cy (up2 st36 15 2 z37) sl28) H := hP
        obtain ⟨st38, est38⟩ : ∃ y, y = up2 st36 15 2 z37 := ⟨_, rfl⟩
        have hG : MG [2, 6, 7, 8, 9, 10, 11, 12, 15, 20, 21, 22] st st38 := by rw [est38]; exact hG.up (rz (by decide : mr 15 2 = 0)) (pn (by decide : pcl 15 2 = 0) (by decide))
        rw [← est38] at hP
        refine lv_aload_n hx hb dX12_book_130 rfl (lv_at hl 2 rfl) ?_
        refine va_get (D := (dC, dI)) (ci := 11) (v := .ref (ar 15)) (C := RX12) (T := TX12) (N := 47) hx hb hts ii_X12_book hown hK hP 0 rfl rfl 39 (by decide) (hts _ mm_X12_book_5) (fun _ hh => hh) rfl dX12_book_131 ?_
        refine lv_iconst (v := 3) hx hb dX12_book_134 (by decide) ?_
        refine lv_aload_n hx hb dX12_book_135 rfl (lv_at hl 2 rfl) ?_
        refine va_calli (va_runV (As := []) (rest := [.int 3, .ref (ar 15)]) ⟨hx, hb, hml, hown, hts⟩ (m_awaySet l dC dI ar cy _ hN st38 sl28 hG.1 ) (cwV 0 hts gX12_book_X12_awaySet rfl rfl rfl (by decide +kernel) ⟨Nat.le_of_ble_eq_true rfl, Nat.le_of_ble_eq_true rfl⟩) ⟨fun a U g mk q => ⟨q.1, mPre.blind q.2⟩, va_recv hK hP (ci := 11) (q0 := 0) rfl rfl, fun U hU hW => ⟨rfl, mPre.of hP hK hU hW⟩⟩ rfl rfl hl.1 rfl (lv_room (Nat.le_of_ble_eq_true rfl)) dX12_book_136 ⟨Nat.le_of_ble_eq_true rfl, Nat.le_of_ble_eq_true rfl⟩) hS (fun q _ h => MA.le hS.1 q h) (MA.le hS.1) (fun r39 x t H locs ht hvm hw hB9 _ _ hS => ?_)
        have hP := mB.at ht hB9
        clear hB9 ht hvm
        obtain ⟨rfl, hw⟩ := hw
        have hP : va_P (dC, dI) vwCl (mw ar cy st38 sl28) _ := hP
        clear hw
        refine va_iast hx hb hK hP (mD hN _ _ _ _) hS 15 14 rfl rfl (i := 3) (zz_in (by decide)) dX12_book_139 (fun H locs hP _ hS => ?_)
        have hP : va_P (dC, dI) vwCl (mw ar cy (up2 st38 15 3 r39) sl28) H := hP
        obtain ⟨st40, est40⟩ : ∃ y, y = up2 st38 15 3 r39 := ⟨_, rfl⟩
        have hG : MG [2, 6, 7, 8, 9, 10, 11, 12, 15, 20, 21, 22] st st40 := by rw [est40]; exact hG.up (rz (by decide : mr 15 3 = 0)) (pn (by decide : pcl 15 3 = 0) (by decide))
        rw [← est40] at hP
        refine lv_aload_n hx hb dX12_book_140 rfl (lv_at hl 2 rfl) ?_
        refine lv_iconst (v := 1) hx hb dX12_book_141 (by decide) ?_
        refine va_put (D := (dC, dI)) (ci := 11) (v := .int 1) (ty := .boolean) (C := RX12) (T := TX12) (N := 47) hx hb hts ii_X12_book tyX12 tyX12_ok nmX12 hown hK hP (mD hN _ _ _ _) hS 0 rfl rfl 41 (by decide) (hts _ mm_X12_book_7) (fun _ hh => hh) rfl (by decide +kernel) rfl rfl (Nat.le_of_ble_eq_true rfl) dX12_book_142 (fun H locs hP _ hS => ?_)
        have hP : va_P (dC, dI) vwCl (mw ar cy (up2 st40 0 41 1) sl28) H := hP
        obtain ⟨st41, est41⟩ : ∃ y, y = up2 st40 0 41 1 := ⟨_, rfl⟩
        have hG : MG [2, 6, 7, 8, 9, 10, 11, 12, 15, 20, 21, 22] st st41 := by rw [est41]; exact hG.up (rz (by decide : mr 0 41 = 0)) (pn (by decide : pcl 0 41 = 0) (by decide))
        rw [← est41] at hP
        refine lv_aload_n hx hb dX12_book_145 rfl (lv_at hl 2 rfl) ?_
        refine lv_iload_n hx hb dX12_book_146 rfl (lv_at hl 3 rfl) ?_
        refine lv_iconst (v := 1) hx hb dX12_book_147 (by decide) ?_
        refine lv_icmp_ne (tgt := 159) hx hb dX12_book_148 (by decide) (fun c4 => ?_) (fun c4 => ?_)
        · refine lv_iconst (v := 0) hx hb dX12_book_159 (by decide) ?_
          refine va_callv (va_runV (As := [.int 0]) (rest := []) ⟨hx, hb, hml, hown, hts⟩ (m_stay0 l dC dI ar cy _ hN st41 sl28 hG.1 ) (cwV 1 hts gX12_book_X12_stay rfl rfl rfl (by decide +kernel) ⟨Nat.le_of_ble_eq_true rfl, Nat.le_of_ble_eq_true rfl⟩) ⟨fun a U g mk q => ⟨q.1, mPre.blind q.2⟩, va_recv hK hP (ci := 11) (q0 := 0) rfl rfl, fun U hU hW => ⟨rfl, mPre.of hP hK hU hW⟩⟩ rfl rfl hl.1 rfl (lv_room (Nat.le_of_ble_eq_true rfl)) dX12_book_160 ⟨Nat.le_of_ble_eq_true rfl, Nat.le_of_ble_eq_true rfl⟩) hS (fun q _ h => MA.le hS.1 q h) (MA.le hS.1) (fun x t H locs ht hvm hw hB9 _ _ hS => ?_)
          have hP := mB.at ht hB9
          clear hB9 ht hvm
          obtain ⟨st43, sl44⟩ := x
          obtain ⟨hG2, hLxst43, hw⟩ := hw
          dsimp only at hG2 hw
          have hP : va_P (dC, dI) vwCl (mw ar cy st43 sl44) _ := hP
          have hG : MG [2, 6, 7, 8, 9, 10, 11, 12, 15, 20, 21, 22] st st43 := hG.tr hG2 (by decide)
          have hMst43 : MG [1, 2, 3, 4, 5, 6, 7, 8, 9, 10, 11, 12, 13, 14, 15, 16, 17, 19, 20, 21, 22, 23] st41 st43 := hG2
          clear hG2
          clear hw
          refine lv_iload_n hx hb dX12_book_163 rfl (lv_at hl 0 rfl) ?_
          refine lv_if_ne (tgt := 171) hx hb dX12_book_164 (by decide) (fun c5 => ?_) (fun c5 => ?_)
          · refine lv_iload_n hx hb dX12_book_171 rfl (lv_at hl 1 rfl) ?_
            have hft9 : st43 0 10 = nI (bBk B g m c nm 41 0 0).1 := by rw [hres]; exact (show st43 0 10 = 0 by rw [hMst43.2 0 10 (by decide), est41, up2_ne (r := 0) (k := 41) (a := 0) (j := 10) _ _ (by omega), est40, up2_ne (r := 15) (k := 3) (a := 0) (j := 10) _ _ (by omega), est38, up2_ne (r := 15) (k := 2) (a := 0) (j := 10) _ _ (by omega), est36, up2_ne (r := 15) (k := 1) (a := 0) (j := 10) _ _ (by omega), est35, up2_ne (r := 15) (k := 0) (a := 0) (j := 10) _ _ (by omega), hv31_0])
            subst hm
            exact W.iret (v := (nI k26)) hx hb hr (fun t ht hW => ⟨⟨(nI k26), (st43, sl44), rfl, ⟨hG, Or.inl ⟨zz_01 hf3 hf4, hft9⟩⟩, mB.of ht hP⟩, hS.F ht⟩) hS.2.2 dX12_book_172
          · refine lv_iconst (v := (-1)) hx hb dX12_book_167 (by decide) ?_
            refine lv_goto (tgt := 172) hx hb dX12_book_168 (by decide) ?_
            have hft9 : st43 0 10 = nI (bBk B g m c nm 41 0 0).1 := by rw [hres]; exact (show st43 0 10 = 0 by rw [hMst43.2 0 10 (by decide), est41, up2_ne (r := 0) (k := 41) (a := 0) (j := 10) _ _ (by omega), est40, up2_ne (r := 15) (k := 3) (a := 0) (j := 10) _ _ (by omega), est38, up2_ne (r := 15) (k := 2) (a := 0) (j := 10) _ _ (by omega), est36, up2_ne (r := 15) (k := 1) (a := 0) (j := 10) _ _ (by omega), est35, up2_ne (r := 15) (k := 0) (a := 0) (j := 10) _ _ (by omega), hv31_0])
            subst hm
            exact W.iret (v := (-1)) hx hb hr (fun t ht hW => ⟨⟨(-1), (st43, sl44), rfl, ⟨hG, Or.inl ⟨zz_01 hf3 hf4, hft9⟩⟩, mB.of ht hP⟩, hS.F ht⟩) hS.2.2 dX12_book_172
        · refine lv_iload_n hx hb dX12_book_151 rfl (lv_at hl 1 rfl) ?_
          refine lv_if_le (tgt := 159) hx hb dX12_book_152 (by decide) (fun c6 => ?_) (fun c6 => ?_)
          · have c6 : k26 ≤ 0 := (nI_leI (a := k26) (b := 0) (by omega) (by omega)).mp c6
            refine lv_iconst (v := 0) hx hb dX12_book_159 (by decide) ?_
            refine va_callv (va_runV (As := [.int 0]) (rest := []) ⟨hx, hb, hml, hown, hts⟩ (m_stay0 l dC dI ar cy _ hN st41 sl28 hG.1 ) (cwV 1 hts gX12_book_X12_stay rfl rfl rfl (by decide +kernel) ⟨Nat.le_of_ble_eq_true rfl, Nat.le_of_ble_eq_true rfl⟩) ⟨fun a U g mk q => ⟨q.1, mPre.blind q.2⟩, va_recv hK hP (ci := 11) (q0 := 0) rfl rfl, fun U hU hW => ⟨rfl, mPre.of hP hK hU hW⟩⟩ rfl rfl hl.1 rfl (lv_room (Nat.le_of_ble_eq_true rfl)) dX12_book_160 ⟨Nat.le_of_ble_eq_true rfl, Nat.le_of_ble_eq_true rfl⟩) hS (fun q _ h => MA.le hS.1 q h) (MA.le hS.1) (fun x t H locs ht hvm hw hB9 _ _ hS => ?_)
            have hP := mB.at ht hB9
            clear hB9 ht hvm
            obtain ⟨st46, sl47⟩ := x
            obtain ⟨hG2, hLxst46, hw⟩ := hw
            dsimp only at hG2 hw
            have hP : va_P (dC, dI) vwCl (mw ar cy st46 sl47) _ := hP
            have hG : MG [2, 6, 7, 8, 9, 10, 11, 12, 15, 20, 21, 22] st st46 := hG.tr hG2 (by decide)
            have hMst46 : MG [1, 2, 3, 4, 5, 6, 7, 8, 9, 10, 11, 12, 13, 14, 15, 16, 17, 19, 20, 21, 22, 23] st41 st46 := hG2
            clear hG2
            clear hw
            refine lv_iload_n hx hb dX12_book_163 rfl (lv_at hl 0 rfl) ?_
            refine lv_if_ne (tgt := 171) hx hb dX12_book_164 (by decide) (fun c7 => ?_) (fun c7 => ?_)
            · refine lv_iload_n hx hb dX12_book_171 rfl (lv_at hl 1 rfl) ?_
              have hft9 : st46 0 10 = nI (bBk B g m c nm 41 0 0).1 := by rw [hres]; exact (show st46 0 10 = 0 by rw [hMst46.2 0 10 (by decide), est41, up2_ne (r := 0) (k := 41) (a := 0) (j := 10) _ _ (by omega), est40, up2_ne (r := 15) (k := 3) (a := 0) (j := 10) _ _ (by omega), est38, up2_ne (r := 15) (k := 2) (a := 0) (j := 10) _ _ (by omega), est36, up2_ne (r := 15) (k := 1) (a := 0) (j := 10) _ _ (by omega), est35, up2_ne (r := 15) (k := 0) (a := 0) (j := 10) _ _ (by omega), hv31_0])
              subst hm
              exact W.iret (v := (nI k26)) hx hb hr (fun t ht hW => ⟨⟨(nI k26), (st46, sl47), rfl, ⟨hG, Or.inl ⟨zz_01 hf3 hf4, hft9⟩⟩, mB.of ht hP⟩, hS.F ht⟩) hS.2.2 dX12_book_172
            · refine lv_iconst (v := (-1)) hx hb dX12_book_167 (by decide) ?_
              refine lv_goto (tgt := 172) hx hb dX12_book_168 (by decide) ?_
              have hft9 : st46 0 10 = nI (bBk B g m c nm 41 0 0).1 := by rw [hres]; exact (show st46 0 10 = 0 by rw [hMst46.2 0 10 (by decide), est41, up2_ne (r := 0) (k := 41) (a := 0) (j := 10) _ _ (by omega), est40, up2_ne (r := 15) (k := 3) (a := 0) (j := 10) _ _ (by omega), est38, up2_ne (r := 15) (k := 2) (a := 0) (j := 10) _ _ (by omega), est36, up2_ne (r := 15) (k := 1) (a := 0) (j := 10) _ _ (by omega), est35, up2_ne (r := 15) (k := 0) (a := 0) (j := 10) _ _ (by omega), hv31_0])
              subst hm
              exact W.iret (v := (-1)) hx hb hr (fun t ht hW => ⟨⟨(-1), (st46, sl47), rfl, ⟨hG, Or.inl ⟨zz_01 hf3 hf4, hft9⟩⟩, mB.of ht hP⟩, hS.F ht⟩) hS.2.2 dX12_book_172
          · have c6 : ¬ k26 ≤ 0 := fun hh => c6 ((nI_leI (a := k26) (b := 0) (by omega) (by omega)).mpr hh)
            refine lv_iconst (v := 1) hx hb dX12_book_155 (by decide) ?_
            refine lv_goto (tgt := 160) hx hb dX12_book_156 (by decide) ?_
            refine va_callv (va_runV (As := [.int 1]) (rest := []) ⟨hx, hb, hml, hown, hts⟩ (m_stay1 l dC dI ar cy _ hN st41 sl28 hG.1 ) (cwV 1 hts gX12_book_X12_stay rfl rfl rfl (by decide +kernel) ⟨Nat.le_of_ble_eq_true rfl, Nat.le_of_ble_eq_true rfl⟩) ⟨fun a U g mk q => ⟨q.1, mPre.blind q.2⟩, va_recv hK hP (ci := 11) (q0 := 0) rfl rfl, fun U hU hW => ⟨rfl, mPre.of hP hK hU hW⟩⟩ rfl rfl hl.1 rfl (lv_room (Nat.le_of_ble_eq_true rfl)) dX12_book_160 ⟨Nat.le_of_ble_eq_true rfl, Nat.le_of_ble_eq_true rfl⟩) hS (fun q _ h => MA.le hS.1 q h) (MA.le hS.1) (fun x t H locs ht hvm hw hB9 _ _ hS => ?_)
            have hP := mB.at ht hB9
            clear hB9 ht hvm
            obtain ⟨st49, sl50⟩ := x
            obtain ⟨hG2, hLxst49, hw⟩ := hw
            dsimp only at hG2 hw
            have hP : va_P (dC, dI) vwCl (mw ar cy st49 sl50) _ := hP
            have hG : MG [2, 6, 7, 8, 9, 10, 11, 12, 15, 20, 21, 22] st st49 := hG.tr hG2 (by decide)
            have hMst49 : MG [1, 2, 3, 4, 5, 6, 7, 8, 9, 10, 11, 12, 13, 14, 15, 16, 17, 19, 20, 21, 22, 23] st41 st49 := hG2
            clear hG2
            clear hw
            refine lv_iload_n hx hb dX12_book_163 rfl (lv_at hl 0 rfl) ?_
            refine lv_if_ne (tgt := 171) hx hb dX12_book_164 (by decide) (fun c8 => ?_) (fun c8 => ?_)
            · refine lv_iload_n hx hb dX12_book_171 rfl (lv_at hl 1 rfl) ?_
              have hft9 : st49 0 10 = nI (bBk B g m c nm 41 0 0).1 := by rw [hres]; exact (show st49 0 10 = 0 by rw [hMst49.2 0 10 (by decide), est41, up2_ne (r := 0) (k := 41) (a := 0) (j := 10) _ _ (by omega), est40, up2_ne (r := 15) (k := 3) (a := 0) (j := 10) _ _ (by omega), est38, up2_ne (r := 15) (k := 2) (a := 0) (j := 10) _ _ (by omega), est36, up2_ne (r := 15) (k := 1) (a := 0) (j := 10) _ _ (by omega), est35, up2_ne (r := 15) (k := 0) (a := 0) (j := 10) _ _ (by omega), hv31_0])
              subst hm
              exact W.iret (v := (nI k26)) hx hb hr (fun t ht hW => ⟨⟨(nI k26), (st49, sl50), rfl, ⟨hG, Or.inl ⟨zz_01 hf3 hf4, hft9⟩⟩, mB.of ht hP⟩, hS.F ht⟩) hS.2.2 dX12_book_172
            · refine lv_iconst (v := (-1)) hx hb dX12_book_167 (by decide) ?_
              refine lv_goto (tgt := 172) hx hb dX12_book_168 (by decide) ?_
              have hft9 : st49 0 10 = nI (bBk B g m c nm 41 0 0).1 := by rw [hres]; exact (show st49 0 10 = 0 by rw [hMst49.2 0 10 (by decide), est41, up2_ne (r := 0) (k := 41) (a := 0) (j := 10) _ _ (by omega), est40, up2_ne (r := 15) (k := 3) (a := 0) (j := 10) _ _ (by omega), est38, up2_ne (r := 15) (k := 2) (a := 0) (j := 10) _ _ (by omega), est36, up2_ne (r := 15) (k := 1) (a := 0) (j := 10) _ _ (by omega), est35, up2_ne (r := 15) (k := 0) (a := 0) (j := 10) _ _ (by omega), hv31_0])
              subst hm
              exact W.iret (v := (-1)) hx hb hr (fun t ht hW => ⟨⟨(-1), (st49, sl50), rfl, ⟨hG, Or.inl ⟨zz_01 hf3 hf4, hft9⟩⟩, mB.of ht hP⟩, hS.F ht⟩) hS.2.2 dX12_book_172
      · have c3 : ¬ n16 ≤ k26 := fun hh => c3 ((nI_leI (a := n16) (b := k26) (by omega) (by omega)).mpr hh)
        refine lv_iload_n hx hb dX12_book_81 rfl (lv_at hl 0 rfl) ?_
        refine lv_if_ne (tgt := 103) hx hb dX12_book_82 (by decide) (fun c9 => ?_) (fun c9 => ?_)
        · refine lv_aload_n hx hb dX12_book_103 rfl (lv_at hl 2 rfl) ?_
          refine va_get (D := (dC, dI)) (ci := 11) (v := .ref (ar 15)) (C := RX12) (T := TX12) (N := 47) hx hb hts ii_X12_book hown hK hP 0 rfl rfl 39 (by decide) (hts _ mm_X12_book_5) (fun _ hh => hh) rfl dX12_book_104 ?_
          refine lv_iconst (v := 0) hx hb dX12_book_107 (by decide) ?_
          refine lv_iload_n hx hb dX12_book_108 rfl (lv_at hl 0 rfl) ?_
          refine va_iast hx hb hK hP (mD hN _ _ _ _) hS 15 14 rfl rfl (i := 0) (zz_in (by decide)) dX12_book_109 (fun H locs hP _ hS => ?_)
          have hP : va_P (dC, dI) vwCl (mw ar cy (up2 st27 15 0 z25) sl28) H := hP
          obtain ⟨st51, est51⟩ : ∃ y, y = up2 st27 15 0 z25 := ⟨_, rfl⟩
          have hG : MG [2, 6, 7, 8, 9, 10, 11, 12, 15, 20, 21, 22] st st51 := by rw [est51]; exact hG.up (rz (by decide : mr 15 0 = 0)) (pn (by decide : pcl 15 0 = 0) (by decide))
          rw [← est51] at hP
          refine lv_aload_n hx hb dX12_book_110 rfl (lv_at hl 2 rfl) ?_
          refine va_get (D := (dC, dI)) (ci := 11) (v := .ref (ar 15)) (C := RX12) (T := TX12) (N := 47) hx hb hts ii_X12_book hown hK hP 0 rfl rfl 39 (by decide) (hts _ mm_X12_book_5) (fun _ hh => hh) rfl dX12_book_111 ?_
          refine lv_iconst (v := 1) hx hb dX12_book_114 (by decide) ?_
          refine lv_iload_n hx hb dX12_book_115 rfl (lv_at hl 1 rfl) ?_
          refine va_iast hx hb hK hP (mD hN _ _ _ _) hS 15 14 rfl rfl (i := 1) (zz_in (by decide)) dX12_book_116 (fun H locs hP _ hS => ?_)
          have hP : va_P (dC, dI) vwCl (mw ar cy (up2 st51 15 1 (nI k26)) sl28) H := hP
          obtain ⟨st52, est52⟩ : ∃ y, y = up2 st51 15 1 (nI k26) := ⟨_, rfl⟩
          have hG : MG [2, 6, 7, 8, 9, 10, 11, 12, 15, 20, 21, 22] st st52 := by rw [est52]; exact hG.up (rz (by decide : mr 15 1 = 0)) (pn (by decide : pcl 15 1 = 0) (by decide))
          rw [← est52] at hP
          refine lv_aload_n hx hb dX12_book_117 rfl (lv_at hl 2 rfl) ?_
          refine va_get (D := (dC, dI)) (ci := 11) (v := .ref (ar 15)) (C := RX12) (T := TX12) (N := 47) hx hb hts ii_X12_book hown hK hP 0 rfl rfl 39 (by decide) (hts _ mm_X12_book_5) (fun _ hh => hh) rfl dX12_book_118 ?_
          refine lv_iconst (v := 2) hx hb dX12_book_121 (by decide) ?_
          refine lv_aload_n hx hb dX12_book_122 rfl (lv_at hl 2 rfl) ?_
          refine va_get (D := (dC, dI)) (ci := 11) (v := .ref (ar 2)) (C := RX12) (T := TX12) (N := 47) hx hb hts ii_X12_book hown hK hP 0 rfl rfl 14 (by decide) (hts _ mm_X12_book_6) (fun _ hh => hh) rfl dX12_book_123 ?_
          refine lv_bipush (v := 61) hx hb dX12_book_126 (by decide) ?_
          refine va_iald hx hb hK hP 2 1 rfl rfl (i := 61) (zz_in (by decide)) dX12_book_128 ?_
          refine lv_topi (fun z53 ez53 => ?_)
          refine va_iast hx hb hK hP (mD hN _ _ _ _) hS 15 14 rfl rfl (i := 2) (zz_in (by decide)) dX12_book_129 (fun H locs hP _ hS => ?_)
          have hP : va_P (dC, dI) vwCl (mw ar cy (up2 st52 15 2 z53) sl28) H := hP
          obtain ⟨st54, est54⟩ : ∃ y, y = up2 st52 15 2 z53 := ⟨_, rfl⟩
          have hG : MG [2, 6, 7, 8, 9, 10, 11, 12, 15, 20, 21, 22] st st54 := by rw [est54]; exact hG.up (rz (by decide : mr 15 2 = 0)) (pn (by decide : pcl 15 2 = 0) (by decide))
          rw [← est54] at hP
          refine lv_aload_n hx hb dX12_book_130 rfl (lv_at hl 2 rfl) ?_
          refine va_get (D := (dC, dI)) (ci := 11) (v := .ref (ar 15)) (C := RX12) (T := TX12) (N := 47) hx hb hts ii_X12_book hown hK hP 0 rfl rfl 39 (by decide) (hts _ mm_X12_book_5) (fun _ hh => hh) rfl dX12_book_131 ?_
          refine lv_iconst (v := 3) hx hb dX12_book_134 (by decide) ?_
          refine lv_aload_n hx hb dX12_book_135 rfl (lv_at hl 2 rfl) ?_
          refine va_calli (va_runV (As := []) (rest := [.int 3, .ref (ar 15)]) ⟨hx, hb, hml, hown, hts⟩ (m_awaySet l dC dI ar cy _ hN st54 sl28 hG.1 ) (cwV 0 hts gX12_book_X12_awaySet rfl rfl rfl (by decide +kernel) ⟨Nat.le_of_ble_eq_true rfl, Nat.le_of_ble_eq_true rfl⟩) ⟨fun a U g mk q => ⟨q.1, mPre.blind q.2⟩, va_recv hK hP (ci := 11) (q0 := 0) rfl rfl, fun U hU hW => ⟨rfl, mPre.of hP hK hU hW⟩⟩ rfl rfl hl.1 rfl (lv_room (Nat.le_of_ble_eq_true rfl)) dX12_book_136 ⟨Nat.le_of_ble_eq_true rfl, Nat.le_of_ble_eq_true rfl⟩) hS (fun q _ h => MA.le hS.1 q h) (MA.le hS.1) (fun r55 x t H locs ht hvm hw hB9 _ _ hS => ?_)
          have hP := mB.at ht hB9
          clear hB9 ht hvm
          obtain ⟨rfl, hw⟩ := hw
          have hP : va_P (dC, dI) vwCl (mw ar cy st54 sl28) _ := hP
          clear hw
          refine va_iast hx hb hK hP (mD hN _ _ _ _) hS 15 14 rfl rfl (i := 3) (zz_in (by decide)) dX12_book_139 (fun H locs hP _ hS => ?_)
          have hP : va_P (dC, dI) vwCl (mw ar cy (up2 st54 15 3 r55) sl28) H := hP
          obtain ⟨st56, est56⟩ : ∃ y, y = up2 st54 15 3 r55 := ⟨_, rfl⟩
          have hG : MG [2, 6, 7, 8, 9, 10, 11, 12, 15, 20, 21, 22] st st56 := by rw [est56]; exact hG.up (rz (by decide : mr 15 3 = 0)) (pn (by decide : pcl 15 3 = 0) (by decide))
          rw [← est56] at hP
          refine lv_aload_n hx hb dX12_book_140 rfl (lv_at hl 2 rfl) ?_
          refine lv_iconst (v := 1) hx hb dX12_book_141 (by decide) ?_
          refine va_put (D := (dC, dI)) (ci := 11) (v := .int 1) (ty := .boolean) (C := RX12) (T := TX12) (N := 47) hx hb hts ii_X12_book tyX12 tyX12_ok nmX12 hown hK hP (mD hN _ _ _ _) hS 0 rfl rfl 41 (by decide) (hts _ mm_X12_book_7) (fun _ hh => hh) rfl (by decide +kernel) rfl rfl (Nat.le_of_ble_eq_true rfl) dX12_book_142 (fun H locs hP _ hS => ?_)
          have hP : va_P (dC, dI) vwCl (mw ar cy (up2 st56 0 41 1) sl28) H := hP
          obtain ⟨st57, est57⟩ : ∃ y, y = up2 st56 0 41 1 := ⟨_, rfl⟩
          have hG : MG [2, 6, 7, 8, 9, 10, 11, 12, 15, 20, 21, 22] st st57 := by rw [est57]; exact hG.up (rz (by decide : mr 0 41 = 0)) (pn (by decide : pcl 0 41 = 0) (by decide))
          rw [← est57] at hP
          refine lv_aload_n hx hb dX12_book_145 rfl (lv_at hl 2 rfl) ?_
          refine lv_iload_n hx hb dX12_book_146 rfl (lv_at hl 3 rfl) ?_
          refine lv_iconst (v := 1) hx hb dX12_book_147 (by decide) ?_
          refine lv_icmp_ne (tgt := 159) hx hb dX12_book_148 (by decide) (fun c10 => ?_) (fun c10 => ?_)
          · refine lv_iconst (v := 0) hx hb dX12_book_159 (by decide) ?_
            refine va_callv (va_runV (As := [.int 0]) (rest := []) ⟨hx, hb, hml, hown, hts⟩ (m_stay0 l dC dI ar cy _ hN st57 sl28 hG.1 ) (cwV 1 hts gX12_book_X12_stay rfl rfl rfl (by decide +kernel) ⟨Nat.le_of_ble_eq_true rfl, Nat.le_of_ble_eq_true rfl⟩) ⟨fun a U g mk q => ⟨q.1, mPre.blind q.2⟩, va_recv hK hP (ci := 11) (q0 := 0) rfl rfl, fun U hU hW => ⟨rfl, mPre.of hP hK hU hW⟩⟩ rfl rfl hl.1 rfl (lv_room (Nat.le_of_ble_eq_true rfl)) dX12_book_160 ⟨Nat.le_of_ble_eq_true rfl, Nat.le_of_ble_eq_true rfl⟩) hS (fun q _ h => MA.le hS.1 q h) (MA.le hS.1) (fun x t H locs ht hvm hw hB9 _ _ hS => ?_)
            have hP := mB.at ht hB9
            clear hB9 ht hvm
            obtain ⟨st59, sl60⟩ := x
            obtain ⟨hG2, hLxst59, hw⟩ := hw
            dsimp only at hG2 hw
            have hP : va_P (dC, dI) vwCl (mw ar cy st59 sl60) _ := hP
            have hG : MG [2, 6, 7, 8, 9, 10, 11, 12, 15, 20, 21, 22] st st59 := hG.tr hG2 (by decide)
            have hMst59 : MG [1, 2, 3, 4, 5, 6, 7, 8, 9, 10, 11, 12, 13, 14, 15, 16, 17, 19, 20, 21, 22, 23] st57 st59 := hG2
            clear hG2
            clear hw
            refine lv_iload_n hx hb dX12_book_163 rfl (lv_at hl 0 rfl) ?_
            refine lv_if_ne (tgt := 171) hx hb dX12_book_164 (by decide) (fun c11 => ?_) (fun c11 => ?_)
            · refine lv_iload_n hx hb dX12_book_171 rfl (lv_at hl 1 rfl) ?_
              have hft9 : st59 0 10 = nI (bBk B g m c nm 41 0 0).1 := by rw [hres]; exact (show st59 0 10 = 0 by rw [hMst59.2 0 10 (by decide), est57, up2_ne (r := 0) (k := 41) (a := 0) (j := 10) _ _ (by omega), est56, up2_ne (r := 15) (k := 3) (a := 0) (j := 10) _ _ (by omega), est54, up2_ne (r := 15) (k := 2) (a := 0) (j := 10) _ _ (by omega), est52, up2_ne (r := 15) (k := 1) (a := 0) (j := 10) _ _ (by omega), est51, up2_ne (r := 15) (k := 0) (a := 0) (j := 10) _ _ (by omega), hv31_0])
              subst hm
              exact W.iret (v := (nI k26)) hx hb hr (fun t ht hW => ⟨⟨(nI k26), (st59, sl60), rfl, ⟨hG, Or.inl ⟨zz_01 hf3 hf4, hft9⟩⟩, mB.of ht hP⟩, hS.F ht⟩) hS.2.2 dX12_book_172
            · refine lv_iconst (v := (-1)) hx hb dX12_book_167 (by decide) ?_
              refine lv_goto (tgt := 172) hx hb dX12_book_168 (by decide) ?_
              have hft9 : st59 0 10 = nI (bBk B g m c nm 41 0 0).1 := by rw [hres]; exact (show st59 0 10 = 0 by rw [hMst59.2 0 10 (by decide), est57, up2_ne (r := 0) (k := 41) (a := 0) (j := 10) _ _ (by omega), est56, up2_ne (r := 15) (k := 3) (a := 0) (j := 10) _ _ (by omega), est54, up2_ne (r := 15) (k := 2) (a := 0) (j := 10) _ _ (by omega), est52, up2_ne (r := 15) (k := 1) (a := 0) (j := 10) _ _ (by omega), est51, up2_ne (r := 15) (k := 0) (a := 0) (j := 10) _ _ (by omega), hv31_0])
              subst hm
              exact W.iret (v := (-1)) hx hb hr (fun t ht hW => ⟨⟨(-1), (st59, sl60), rfl, ⟨hG, Or.inl ⟨zz_01 hf3 hf4, hft9⟩⟩, mB.of ht hP⟩, hS.F ht⟩) hS.2.2 dX12_book_172
          · refine lv_iload_n hx hb dX12_book_151 rfl (lv_at hl 1 rfl) ?_
            refine lv_if_le (tgt := 159) hx hb dX12_book_152 (by decide) (fun c12 => ?_) (fun c12 => ?_)
            · have c12 : k26 ≤ 0 := (nI_leI (a := k26) (b := 0) (by omega) (by omega)).mp c12
              refine lv_iconst (v := 0) hx hb dX12_book_159 (by decide) ?_
              refine va_callv (va_runV (As := [.int 0]) (rest := []) ⟨hx, hb, hml, hown, hts⟩ (m_stay0 l dC dI ar cy _ hN st57 sl28 hG.1 ) (cwV 1 hts gX12_book_X12_stay rfl rfl rfl (by decide +kernel) ⟨Nat.le_of_ble_eq_true rfl, Nat.le_of_ble_eq_true rfl⟩) ⟨fun a U g mk q => ⟨q.1, mPre.blind q.2⟩, va_recv hK hP (ci := 11) (q0 := 0) rfl rfl, fun U hU hW => ⟨rfl, mPre.of hP hK hU hW⟩⟩ rfl rfl hl.1 rfl (lv_room (Nat.le_of_ble_eq_true rfl)) dX12_book_160 ⟨Nat.le_of_ble_eq_true rfl, Nat.le_of_ble_eq_true rfl⟩) hS (fun q _ h => MA.le hS.1 q h) (MA.le hS.1) (fun x t H locs ht hvm hw hB9 _ _ hS => ?_)
              have hP := mB.at ht hB9
              clear hB9 ht hvm
              obtain ⟨st62, sl63⟩ := x
              obtain ⟨hG2, hLxst62, hw⟩ := hw
              dsimp only at hG2 hw
              have hP : va_P (dC, dI) vwCl (mw ar cy st62 sl63) _ := hP
              have hG : MG [2, 6, 7, 8, 9, 10, 11, 12, 15, 20, 21, 22] st st62 := hG.tr hG2 (by decide)
              have hMst62 : MG [1, 2, 3, 4, 5, 6, 7, 8, 9, 10, 11, 12, 13, 14, 15, 16, 17, 19, 20, 21, 22, 23] st57 st62 := hG2
              clear hG2
              clear hw
              refine lv_iload_n hx hb dX12_book_163 rfl (lv_at hl 0 rfl) ?_
              refine lv_if_ne (tgt := 171) hx hb dX12_book_164 (by decide) (fun c13 => ?_) (fun c13 => ?_)
              · refine lv_iload_n hx hb dX12_book_171 rfl (lv_at hl 1 rfl) ?_
                have hft9 : st62 0 10 = nI (bBk B g m c nm 41 0 0).1 := by rw [hres]; exact (show st62 0 10 = 0 by rw [hMst62.2 0 10 (by decide), est57, up2_ne (r := 0) (k := 41) (a := 0) (j := 10) _ _ (by omega), est56, up2_ne (r := 15) (k := 3) (a := 0) (j := 10) _ _ (by omega), est54, up2_ne (r := 15) (k := 2) (a := 0) (j := 10) _ _ (by omega), est52, up2_ne (r := 15) (k := 1) (a := 0) (j := 10) _ _ (by omega), est51, up2_ne (r := 15) (k := 0) (a := 0) (j := 10) _ _ (by omega), hv31_0])
                subst hm
                exact W.iret (v := (nI k26)) hx hb hr (fun t ht hW => ⟨⟨(nI k26), (st62, sl63), rfl, ⟨hG, Or.inl ⟨zz_01 hf3 hf4, hft9⟩⟩, mB.of ht hP⟩, hS.F ht⟩) hS.2.2 dX12_book_172
              · refine lv_iconst (v := (-1)) hx hb dX12_book_167 (by decide) ?_
                refine lv_goto (tgt := 172) hx hb dX12_book_168 (by decide) ?_
                have hft9 : st62 0 10 = nI (bBk B g m c nm 41 0 0).1 := by rw [hres]; exact (show st62 0 10 = 0 by rw [hMst62.2 0 10 (by decide), est57, up2_ne (r := 0) (k := 41) (a := 0) (j := 10) _ _ (by omega), est56, up2_ne (r := 15) (k := 3) (a := 0) (j := 10) _ _ (by omega), est54, up2_ne (r := 15) (k := 2) (a := 0) (j := 10) _ _ (by omega), est52, up2_ne (r := 15) (k := 1) (a := 0) (j := 10) _ _ (by omega), est51, up2_ne (r := 15) (k := 0) (a := 0) (j := 10) _ _ (by omega), hv31_0])
                subst hm
                exact W.iret (v := (-1)) hx hb hr (fun t ht hW => ⟨⟨(-1), (st62, sl63), rfl, ⟨hG, Or.inl ⟨zz_01 hf3 hf4, hft9⟩⟩, mB.of ht hP⟩, hS.F ht⟩) hS.2.2 dX12_book_172
            · have c12 : ¬ k26 ≤ 0 := fun hh => c12 ((nI_leI (a := k26) (b := 0) (by omega) (by omega)).mpr hh)
              refine lv_iconst (v := 1) hx hb dX12_book_155 (by decide) ?_
              refine lv_goto (tgt := 160) hx hb dX12_book_156 (by decide) ?_
              refine va_callv (va_runV (As := [.int 1]) (rest := []) ⟨hx, hb, hml, hown, hts⟩ (m_stay1 l dC dI ar cy _ hN st57 sl28 hG.1 ) (cwV 1 hts gX12_book_X12_stay rfl rfl rfl (by decide +kernel) ⟨Nat.le_of_ble_eq_true rfl, Nat.le_of_ble_eq_true rfl⟩) ⟨fun a U g mk q => ⟨q.1, mPre.blind q.2⟩, va_recv hK hP (ci := 11) (q0 := 0) rfl rfl, fun U hU hW => ⟨rfl, mPre.of hP hK hU hW⟩⟩ rfl rfl hl.1 rfl (lv_room (Nat.le_of_ble_eq_true rfl)) dX12_book_160 ⟨Nat.le_of_ble_eq_true rfl, Nat.le_of_ble_eq_true rfl⟩) hS (fun q _ h => MA.le hS.1 q h) (MA.le hS.1) (fun x t H locs ht hvm hw hB9 _ _ hS => ?_)
              have hP := mB.at ht hB9
              clear hB9 ht hvm
              obtain ⟨st65, sl66⟩ := x
              obtain ⟨hG2, hLxst65, hw⟩ := hw
              dsimp only at hG2 hw
              have hP : va_P (dC, dI) vwCl (mw ar cy st65 sl66) _ := hP
              have hG : MG [2, 6, 7, 8, 9, 10, 11, 12, 15, 20, 21, 22] st st65 := hG.tr hG2 (by decide)
              have hMst65 : MG [1, 2, 3, 4, 5, 6, 7, 8, 9, 10, 11, 12, 13, 14, 15, 16, 17, 19, 20, 21, 22, 23] st57 st65 := hG2
              clear hG2
              clear hw
              refine lv_iload_n hx hb dX12_book_163 rfl (lv_at hl 0 rfl) ?_
              refine lv_if_ne (tgt := 171) hx hb dX12_book_164 (by decide) (fun c14 => ?_) (fun c14 => ?_)
              · refine lv_iload_n hx hb dX12_book_171 rfl (lv_at hl 1 rfl) ?_
                have hft9 : st65 0 10 = nI (bBk B g m c nm 41 0 0).1 := by rw [hres]; exact (show st65 0 10 = 0 by rw [hMst65.2 0 10 (by decide), est57, up2_ne (r := 0) (k := 41) (a := 0) (j := 10) _ _ (by omega), est56, up2_ne (r := 15) (k := 3) (a := 0) (j := 10) _ _ (by omega), est54, up2_ne (r := 15) (k := 2) (a := 0) (j := 10) _ _ (by omega), est52, up2_ne (r := 15) (k := 1) (a := 0) (j := 10) _ _ (by omega), est51, up2_ne (r := 15) (k := 0) (a := 0) (j := 10) _ _ (by omega), hv31_0])
                subst hm
                exact W.iret (v := (nI k26)) hx hb hr (fun t ht hW => ⟨⟨(nI k26), (st65, sl66), rfl, ⟨hG, Or.inl ⟨zz_01 hf3 hf4, hft9⟩⟩, mB.of ht hP⟩, hS.F ht⟩) hS.2.2 dX12_book_172
              · refine lv_iconst (v := (-1)) hx hb dX12_book_167 (by decide) ?_
                refine lv_goto (tgt := 172) hx hb dX12_book_168 (by decide) ?_
                have hft9 : st65 0 10 = nI (bBk B g m c nm 41 0 0).1 := by rw [hres]; exact (show st65 0 10 = 0 by rw [hMst65.2 0 10 (by decide), est57, up2_ne (r := 0) (k := 41) (a := 0) (j := 10) _ _ (by omega), est56, up2_ne (r := 15) (k := 3) (a := 0) (j := 10) _ _ (by omega), est54, up2_ne (r := 15) (k := 2) (a := 0) (j := 10) _ _ (by omega), est52, up2_ne (r := 15) (k := 1) (a := 0) (j := 10) _ _ (by omega), est51, up2_ne (r := 15) (k := 0) (a := 0) (j := 10) _ _ (by omega), hv31_0])
                subst hm
                exact W.iret (v := (-1)) hx hb hr (fun t ht hW => ⟨⟨(-1), (st65, sl66), rfl, ⟨hG, Or.inl ⟨zz_01 hf3 hf4, hft9⟩⟩, mB.of ht hP⟩, hS.F ht⟩) hS.2.2 dX12_book_172
        · refine lv_aload_n hx hb dX12_book_85 rfl (lv_at hl 2 rfl) ?_
          refine lv_iconst (v := 5) hx hb dX12_book_86 (by decide) ?_
          refine lv_iload_n hx hb dX12_book_87 rfl (lv_at hl 1 rfl) ?_
          refine lv_imul hx hb dX12_book_88 ?_
          refine zz_top (v := nI (5 * k26)) (nI_mul 5 k26) ?_
          refine va_calli (va_runV (As := [.int (nI (5 * k26))]) (rest := []) ⟨hx, hb, hml, hown, hts⟩ (m_goBy l dC dI ar cy _ hN st27 sl28 (5 * k26) (by omega) hG.1 (hv33_2 k26 (by omega))) (cwV 1 hts gX12_book_X12_goBy rfl rfl rfl (by decide +kernel) ⟨Nat.le_of_ble_eq_true rfl, Nat.le_of_ble_eq_true rfl⟩) ⟨fun a U g mk q => ⟨q.1, mPre.blind q.2⟩, va_recv hK hP (ci := 11) (q0 := 0) rfl rfl, fun U hU hW => ⟨rfl, mPre.of hP hK hU hW⟩⟩ rfl rfl hl.1 rfl (lv_room (Nat.le_of_ble_eq_true rfl)) dX12_book_89 ⟨Nat.le_of_ble_eq_true rfl, Nat.le_of_ble_eq_true rfl⟩) hS (fun q _ h => MA.le hS.1 q h) (MA.le hS.1) (fun r67 x t H locs ht hvm hw hB9 _ _ hS => ?_)
          have hP := mB.at ht hB9
          clear hB9 ht hvm
          obtain ⟨st68, sl69⟩ := x
          obtain ⟨hG2, hLxst68, hw⟩ := hw
          dsimp only at hG2 hw
          have hP : va_P (dC, dI) vwCl (mw ar cy st68 sl69) _ := hP
          have hG : MG [2, 6, 7, 8, 9, 10, 11, 12, 15, 20, 21, 22] st st68 := hG.tr hG2 (by decide)
          have hMst68 : MG [1, 2, 3, 4, 5, 6, 7, 8, 9, 10, 11, 12, 13, 14, 15, 16, 17, 19, 20, 21, 22, 23] st27 st68 := hG2
          clear hG2
          clear hw
          refine lv_istore_n (lv' := [(3, .int r67), (2, .int (nI k26)), (0, .ref (ar 0)), (1, .int va)]) hx hb dX12_book_92 rfl hl (by decide) rfl (fun ls hl => ?_)
          refine lv_iload_n hx hb dX12_book_93 rfl (lv_at hl 0 rfl) ?_
          refine lv_if_ne (tgt := 73) hx hb dX12_book_94 (by decide) (fun c15 => ?_) (fun c15 => ?_)
          · exact ih34 (2 * (41 - k26) + (if (r67 : Int32) = 0 then 1 else 0)) _ _ _ _ (by rw [hm33, if_pos (by assumption : z25 = 0)]; first | (rw [if_neg (by assumption)]; omega) | (split <;> omega)) ⟨r67, k26, st68, sl69, rfl, by omega, by omega, by show st68 0 10 = 0; rw [hMst68.2 0 10 (by decide), hv31_0], by show st68 0 40 = _; rw [hMst68.2 0 40 (by decide), hv32_1], (LI.mg hMst68 (by decide) hv33_2), hP, hG, hS, lv_sub hl [0, 1, 2, 3] rfl, rfl⟩
          · refine lv_iinc (v := (nI (k26 + 1))) (lv' := [(2, .int (nI (k26 + 1))), (3, .int r67), (0, .ref (ar 0)), (1, .int va)]) hx hb dX12_book_97 hl (k := 1) rfl (nI_add k26 1) (by decide) rfl (fun ls hl => ?_)
            refine lv_goto (tgt := 73) hx hb dX12_book_100 (by decide) ?_
            exact ih34 (2 * (41 - (k26 + 1)) + (if (r67 : Int32) = 0 then 1 else 0)) _ _ _ _ (by rw [hm33, if_pos (by assumption : z25 = 0)]; first | (rw [if_neg (by assumption)]; omega) | (split <;> omega)) ⟨r67, (k26 + 1), st68, sl69, rfl, by omega, by omega, by show st68 0 10 = 0; rw [hMst68.2 0 10 (by decide), hv31_0], by show st68 0 40 = _; rw [hMst68.2 0 40 (by decide), hv32_1], (LI.mg hMst68 (by decide) hv33_2), hP, hG, hS, lv_sub hl [1, 0, 2, 3] rfl, rfl⟩
    · have c2 : ¬ (tkd B g m p7) = 0 := fun hh => c2 ((nI_eq (a := (tkd B g m p7)) (b := 0) (by omega) (by omega)).mpr hh)
      refine lv_aload_n hx hb dX12_book_37 rfl (lv_at hl 0 rfl) ?_
      refine va_calli (va_runV (As := []) (rest := []) ⟨hx, hb, hml, hown, hts⟩ (f_readBookLineJ l dC dI ar cy _ hN st14 sl15 B g m p7 c nm n16 hG.1 (MBt.fr hB hF) hT hR (by rw [en16]) (by omega) (hli)) (cwV 0 hts gX12_book_X12_readBookLine rfl rfl rfl (by decide +kernel) ⟨Nat.le_of_ble_eq_true rfl, Nat.le_of_ble_eq_true rfl⟩) ⟨fun a U g mk q => ⟨q.1, mPre.blind q.2⟩, va_recv hK hP (ci := 11) (q0 := 0) rfl rfl, fun U hU hW => ⟨rfl, mPre.of hP hK hU hW⟩⟩ rfl rfl hl.1 rfl (lv_room (Nat.le_of_ble_eq_true rfl)) dX12_book_38 ⟨Nat.le_of_ble_eq_true rfl, Nat.le_of_ble_eq_true rfl⟩) hS (fun q _ h => MA.le hS.1 q h) (MA.le hS.1) (fun r70 x t H locs ht hvm hw hB9 _ _ hS => ?_)
      have hP := mB.at ht hB9
      clear hB9 ht hvm
      obtain ⟨st71, sl72⟩ := x
      obtain ⟨hG2, hF2, hw⟩ := hw
      dsimp only at hG2 hF2 hw
      have hP : va_P (dC, dI) vwCl (mw ar cy st71 sl72) _ := hP
      have hG : MG [2, 6, 7, 8, 9, 10, 11, 12, 15, 20, 21, 22] st st71 := hG.tr hG2 (by decide)
      have hFst71 : FM 7 st14 sl15 st71 sl72 := hF2
      have hF : FM 7 st7 sl8 st71 sl72 := hF.tr hFst71 (by omega) (by omega)
      clear hG2 hF2
      have hR : RN c nm st71 sl72 := hR.fr hFst71
      rcases hw with ⟨n73, rfl, hT, hf74, hf75, hf76, hf77⟩ | ⟨n78, n79, rfl, hf80, hf81, hf82, hf83⟩
      · have hp9 := hT.2.2.2.2.2.2
        have hk1 := tkd_lt (B := B) (g := g) (m := m) (p := n73)
        have hk2 := tkx_le (B := B) (g := g) (m := m) (p := n73) hp9
        have hk3 := tka_le (B := B) (g := g) (m := m) (p := n73) hp9 hB.2.2.1
        have hk4 := tkv_lt (p := n73) hB hp9
        have hk5 := tkw_lt (B := B) (g := g) (m := m) (p := n73)
        refine lv_if_ne (tgt := 52) hx hb dX12_book_41 (by decide) (fun _ => ?_) (fun cc => absurd cc (by decide))
        refine lv_aload_n hx hb dX12_book_52 rfl (lv_at hl 0 rfl) ?_
        refine lv_dup hx hb dX12_book_53 rfl ?_
        refine va_get (D := (dC, dI)) (ci := 11) (v := .int (st71 0 40)) (C := RX12) (T := TX12) (N := 47) hx hb hts ii_X12_book hown hK hP 0 rfl rfl 40 (by decide) (hts _ mm_X12_book_2) (fun _ hh => hh) rfl dX12_book_54 ?_
        obtain ⟨n84, hn84, en84⟩ := hG.1.at (r := 0) (k := 40) (by decide : mr 0 40 = 41) (by decide)
        refine zz_top (v := nI n84) (by exact en84) ?_
        refine lv_iconst (v := 1) hx hb dX12_book_57 (by decide) ?_
        refine lv_iadd hx hb dX12_book_58 ?_
        refine zz_top (v := nI (n84 + 1)) (nI_add n84 1) ?_
        refine va_put (D := (dC, dI)) (ci := 11) (v := .int (nI (n84 + 1))) (ty := .int) (C := RX12) (T := TX12) (N := 47) hx hb hts ii_X12_book tyX12 tyX12_ok nmX12 hown hK hP (mD hN _ _ _ _) hS 0 rfl rfl 40 (by decide) (hts _ mm_X12_book_2) (fun _ hh => hh) rfl (by decide +kernel) rfl rfl (Nat.le_of_ble_eq_true rfl) dX12_book_59 (fun H locs hP _ hS => ?_)
        have hP : va_P (dC, dI) vwCl (mw ar cy (up2 st71 0 40 (nI (n84 + 1))) sl72) H := hP
        obtain ⟨st85, est85⟩ : ∃ y, y = up2 st71 0 40 (nI (n84 + 1)) := ⟨_, rfl⟩
        have hG : MG [2, 6, 7, 8, 9, 10, 11, 12, 15, 20, 21, 22] st st85 := by rw [est85]; exact hG.up (rn (n := (n84 + 1)) (by decide : mr 0 40 = 41) (by omega)) (pn (by decide : pcl 0 40 = 14) (by decide))
        rw [← est85] at hP
        have hF : FM 7 st7 sl8 st85 sl72 := by rw [est85]; exact hF.up (by decide)
        have hT : TM B g m n73 st85 sl72 := by rw [est85]; exact hT.up (by omega)
        have hR : RN c nm st85 sl72 := by rw [est85]; exact hR.up (by omega)
        refine lv_goto (tgt := 30) hx hb dX12_book_62 (by decide) ?_
        exact ih21 (41 - (n84 + 1)) _ _ _ _ (by omega) ⟨st85, sl72, (n84 + 1), rfl, by rw [est85, up2_same], ⟨n73, hT, hR, hbk.trans (by rw [show 41 - n16 = (40 - n16) + 1 by omega, show 41 - (n16 + 1) = 40 - n16 by omega]; exact bBk_y (by omega) hf74)⟩, by rw [est85]; exact LI.to hf76 (by omega) (fun j hj => up2_ne (r := 0) (k := 40) (a := 14) (j := j) _ _ (by omega)), hF, by show st85 0 10 = st7 0 10; rw [est85, up2_ne (r := 0) (k := 40) (a := 0) (j := 10) _ _ (by omega), hf75, hK10], hP, hG, hS, lv_sub hl [0, 1] rfl, rfl⟩
      · refine lv_if_ne (tgt := 52) hx hb dX12_book_41 (by decide) (fun cc => absurd (by decide) cc) (fun _ => ?_)
        refine lv_bipush (v := (-2)) hx hb dX12_book_44 (by decide) ?_
        refine lv_aload_n hx hb dX12_book_46 rfl (lv_at hl 0 rfl) ?_
        refine va_get (D := (dC, dI)) (ci := 11) (v := .int (st71 0 11)) (C := RX12) (T := TX12) (N := 47) hx hb hts ii_X12_book hown hK hP 0 rfl rfl 11 (by decide) (hts _ mm_X12_book_4) (fun _ hh => hh) rfl dX12_book_47 ?_
        refine zz_top (v := (nI n79)) (by show st71 0 11 = _; rw [hf81]) ?_
        refine lv_isub hx hb dX12_book_50 ?_
        refine lv_topi (fun z86 ez86 => ?_)
        have hres : bBk B g m c nm 41 0 0 = sf n78 n79 := hbk.trans (by rw [show 41 - n16 = (40 - n16) + 1 by omega]; exact bBk_f (by omega) hf83 hf82)
        have hft9 : st71 0 10 = nI (bBk B g m c nm 41 0 0).1 := by rw [hres]; exact (show st71 0 10 = (nI n78) by rw [hf80])
        subst hm
        exact W.iret (v := z86) hx hb hr (fun t ht hW => ⟨⟨z86, (st71, sl72), rfl, ⟨hG, Or.inl ⟨zz_01 hf3 hf4, hft9⟩⟩, mB.of ht hP⟩, hS.F ht⟩) hS.2.2 dX12_book_51
  · refine lv_if_ne (tgt := 18) hx hb dX12_book_11 (by decide) (fun cc => absurd (by decide) cc) (fun _ => ?_)
    refine lv_sipush (v := (-1000)) hx hb dX12_book_14 (by decide) ?_
    exact W.iret (v := (-1000)) hx hb hr (fun t ht hW => ⟨⟨(-1000), (st1, sl), rfl, ⟨hG, Or.inr ⟨fun z9 => z9.elim (fun e => hf5 (by rw [e]; decide)) (fun e => hf5 (by rw [e]; decide)), by show st1 0 10 = st 0 10; rw [est1, up2_ne (r := 0) (k := 0) (a := 0) (j := 10) _ _ (by omega)]⟩⟩, mB.of ht hP⟩, hS.F ht⟩) hS.2.2 dX12_book_17
