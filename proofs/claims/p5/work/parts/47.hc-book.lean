set_option maxHeartbeats 4000000 in
set_option maxRecDepth 100000 in
theorem f_book (l : Launch) (dC : Nat → ClassId) (dI : Nat → Nat → Nat) (ar : Nat → Nat) (cy : Nat → ClassId) (sz : Nat) (hN : MN ar) (st : Nat → Nat → Int32) (sl : Nat → Nat → Int64) (va : Int32) (B : Nat → Nat) (g : Nat) (c : Nat → Nat) (nm : Nat → Nat → Nat) (hI : MI st) (ht : st 0 2 = nI g) (hg : g < 941) (hbt : ∀ j, j < g → st 1 j = nI (B j) ∧ B j < 256) (hRN : RN c nm st sl) : Met l yX12_book wsX12_book ({ frames := 8, cells := 0, slots := 0, locals := 182 }) (va_Pc [.ref (ar 0), .int va] (mPre dC dI ar cy sz st sl)) (va_Qi (fun (r : Int32) (x : MT) => MG [2, 6, 7, 8, 9, 10, 11, 12, 15, 20, 21, 22] st x.1 ∧ (((va = 0 ∨ va = 1) ∧ x.1 0 10 = nI (bBk B g 400 c nm 41 0 0).1) ∨ ((¬ (va = 0 ∨ va = 1)) ∧ x.1 0 10 = st 0 10))) (mB dC dI ar cy) (MA ar sz)) 0 0 (MA ar sz) := by
  refine Met.ofW (cc := cX12_book) (maxL := 4) (ret := (some .int)) (by decide) rfl ?_
  intro p9 e s m9 args below meth c9 s₁ B9 hml hv
  obtain ⟨rfl, hsz, hP, hK⟩ := hv
  have hx := B9.exec
  have hb := B9.bytes
  have hr := B9.returns
  have hts := atoms_spec (ws := wsX12_book) B9.pre
  have hown : s.vm.findClass RX12 = some m9.cls := findClass_of_methodNamed B9.named
  subst hsz
  have hS : va_S (MA ar s.heap.size) s.heap s.heap [] := va_S.rf
  have hG : MG [2, 6, 7, 8, 9, 10, 11, 12, 15, 20, 21, 22] st st := MG.rf hI
  have hl := lv_entry ([.ref (ar 0), .int va]) (n := 4) (Nat.le_of_ble_eq_true rfl)
  rw [lg_entry_eq]
  generalize (lg_sl ([.ref (ar 0), .int va]) ++ List.replicate (4 - (lg_sl ([.ref (ar 0), .int va])).length) Slot.unset).toArray = ls at hl ⊢
  have hl : lv_has ls 4 [(0, .ref (ar 0)), (1, .int va)] := hl
  clear hI
  refine lv_aload_n hx hb dX12_book_0 rfl (lv_at hl 0 rfl) ?_
  refine lv_iconst (v := 0) hx hb dX12_book_1 (by decide) ?_
  refine va_put (D := (dC, dI)) (ci := 11) (v := .int 0) (ty := .int) (C := RX12) (T := TX12) (N := 47) hx hb hts ii_X12_book tyX12 tyX12_ok nmX12 hown hK hP (mD hN _ _ _ _) hS 0 rfl rfl 0 (by decide) (hts _ mm_X12_book_1) (fun _ hh => hh) rfl (by decide +kernel) rfl rfl (Nat.le_of_ble_eq_true rfl) dX12_book_2 (fun H locs hP _ hS => ?_)
  have hP : va_P (dC, dI) vwCl (mw ar cy (up2 st 0 0 0) sl) H := hP
  obtain ⟨st1, est1⟩ : ∃ y, y = up2 st 0 0 0 := ⟨_, rfl⟩
  have hG : MG [2, 6, 7, 8, 9, 10, 11, 12, 15, 20, 21, 22] st st1 := by rw [est1]; exact hG.up (rz (by decide : mr 0 0 = 0)) (pn (by decide : pcl 0 0 = 0) (by decide))
  rw [← est1] at hP
  refine lv_iload_n hx hb dX12_book_5 rfl (lv_at hl 1 rfl) ?_
  refine lv_iconst (v := 0) hx hb dX12_book_6 (by decide) ?_
  refine lv_iconst (v := 1) hx hb dX12_book_7 (by decide) ?_
  refine va_calli (va_runS (As := [.int va, .int 0, .int 1]) (rest := []) ⟨hx, hb, hml, hown, hts⟩ (m_isInX l dC dI ar cy _ hN st1 sl va 0 1 hG.1 ) (va_cwS 3 hts gX12_book_X12_isIn rfl rfl rfl (by decide +kernel) ⟨Nat.le_of_ble_eq_true rfl, Nat.le_of_ble_eq_true rfl⟩) ⟨fun a U g mk q => ⟨q.1, mPre.blind q.2⟩, fun U hU hW => ⟨rfl, mPre.of hP hK hU hW⟩⟩ rfl rfl hl.1 rfl (lv_room (Nat.le_of_ble_eq_true rfl)) dX12_book_8 ⟨Nat.le_of_ble_eq_true rfl, Nat.le_of_ble_eq_true rfl⟩) hS (fun q _ h => MA.le hS.1 q h) (MA.le hS.1) (fun r2 x t H locs ht hvm hw hB9 _ _ hS => ?_)
  have hP := mB.at ht hB9
  clear hB9 ht hvm
  obtain ⟨rfl, hw⟩ := hw
  have hP : va_P (dC, dI) vwCl (mw ar cy st1 sl) _ := hP
  rcases hw with ⟨rfl, hf3, hf4⟩ | ⟨rfl, hf5⟩
  · refine lv_if_ne (tgt := 18) hx hb dX12_book_11 (by decide) (fun _ => ?_) (fun cc => absurd cc (by decide))
    refine lv_aload_n hx hb dX12_book_18 rfl (lv_at hl 0 rfl) ?_
    refine lv_sipush (v := 400) hx hb dX12_book_19 (by decide) ?_
    refine va_callv (va_runV (As := [.int 400]) (rest := []) ⟨hx, hb, hml, hown, hts⟩ (f_begin400 l dC dI ar cy _ hN st1 sl B g hG.1 (by show st1 0 2 = _; rw [est1, up2_ne (r := 0) (k := 0) (a := 0) (j := 2) _ _ (by omega), ht]) (hg) (by intro j hj; rw [est1, up2_ne (r := 0) (k := 0) (a := 1) (j := j) _ _ (by omega)]; exact hbt j hj)) (cwV 1 hts gX12_book_X12_begin rfl rfl rfl (by decide +kernel) ⟨Nat.le_of_ble_eq_true rfl, Nat.le_of_ble_eq_true rfl⟩) ⟨fun a U g mk q => ⟨q.1, mPre.blind q.2⟩, va_recv hK hP (ci := 11) (q0 := 0) rfl rfl, fun U hU hW => ⟨rfl, mPre.of hP hK hU hW⟩⟩ rfl rfl hl.1 rfl (lv_room (Nat.le_of_ble_eq_true rfl)) dX12_book_22 ⟨Nat.le_of_ble_eq_true rfl, Nat.le_of_ble_eq_true rfl⟩) hS (fun q _ h => MA.le hS.1 q h) (MA.le hS.1) (fun x t H locs ht hvm hw hB9 _ _ hS => ?_)
    have hP := mB.at ht hB9
    clear hB9 ht hvm
    obtain ⟨st7, sl8⟩ := x
    obtain ⟨hG2, hw⟩ := hw
    dsimp only at hG2 hw
    have hP : va_P (dC, dI) vwCl (mw ar cy st7 sl8) _ := hP
    have hG : MG [2, 6, 7, 8, 9, 10, 11, 12, 15, 20, 21, 22] st st7 := hG.tr hG2 (by decide)
    have hMst7 : MG [2, 6, 7, 8, 9, 10, 11, 12, 13, 14, 15, 20, 21, 22] st1 st7 := hG2
    clear hG2
    obtain ⟨hf9, hT, hf10, hf11, hf12⟩ := hw
    obtain ⟨m, hm⟩ : ∃ m : Nat, m = 400 := ⟨_, rfl⟩
    have hB : MBt B g m st7 := by rw [hm]; exact hf9
    have hT : TM B g m 0 st7 sl8 := by rw [hm]; exact hT
    have hB1 := hB.2.2.1
    have hB2 := hB.2.2.2.1
    have hF : FM 7 st7 sl8 st7 sl8 := FM.rf
    have hp9 := hT.2.2.2.2.2.2
    have hk1 := tkd_lt (B := B) (g := g) (m := m) (p := 0)
    have hk2 := tkx_le (B := B) (g := g) (m := m) (p := 0) hp9
    have hk3 := tka_le (B := B) (g := g) (m := m) (p := 0) hp9 hB.2.2.1
    have hk4 := tkv_lt (p := 0) hB hp9
    have hk5 := tkw_lt (B := B) (g := g) (m := m) (p := 0)
    have hRN1 : RN c nm st1 sl := by rw [est1]; exact hRN.up (by omega)
    have hR : RN c nm st7 sl8 := (RN.eq hRN1 (fun a ha => MG.c2 hMst7 (by decide) ha) (hf12 7 (by decide)))
    have hR9 := hR.2.1
    refine lv_aload_n hx hb dX12_book_25 rfl (lv_at hl 0 rfl) ?_
    refine lv_iconst (v := 0) hx hb dX12_book_26 (by decide) ?_
    refine va_put (D := (dC, dI)) (ci := 11) (v := .int 0) (ty := .int) (C := RX12) (T := TX12) (N := 47) hx hb hts ii_X12_book tyX12 tyX12_ok nmX12 hown hK hP (mD hN _ _ _ _) hS 0 rfl rfl 40 (by decide) (hts _ mm_X12_book_2) (fun _ hh => hh) rfl (by decide +kernel) rfl rfl (Nat.le_of_ble_eq_true rfl) dX12_book_27 (fun H locs hP _ hS => ?_)
    have hP : va_P (dC, dI) vwCl (mw ar cy (up2 st7 0 40 0) sl8) H := hP
    obtain ⟨st13, est13⟩ : ∃ y, y = up2 st7 0 40 0 := ⟨_, rfl⟩
    have hG : MG [2, 6, 7, 8, 9, 10, 11, 12, 15, 20, 21, 22] st st13 := by rw [est13]; exact hG.up (r0) (pn (by decide : pcl 0 40 = 14) (by decide))
    rw [← est13] at hP
    have hF : FM 7 st7 sl8 st13 sl8 := by rw [est13]; exact hF.up (by decide)
    have hT : TM B g m 0 st13 sl8 := by rw [est13]; exact hT.up (by omega)
    have hR : RN c nm st13 sl8 := by rw [est13]; exact hR.up (by omega)
    refine zz_wf (fun n stk H locs ls => ∃ st14 : Nat → Nat → Int32, ∃ sl15 : Nat → Nat → Int64, ∃ n16 : Nat, n = 41 - n16 ∧ st14 0 40 = nI n16 ∧ n16 ≤ 40 ∧ (∃ (p7 : Nat), TM B g m p7 st14 sl15 ∧ RN c nm st14 sl15 ∧ bBk B g m c nm 41 0 0 = bBk B g m c nm (41 - n16) p7 n16) ∧ LI st14 n16 ∧ FM 7 st7 sl8 st14 sl15 ∧ st14 0 10 = st7 0 10 ∧ va_P (dC, dI) vwCl (mw ar cy st14 sl15) H ∧ MG [2, 6, 7, 8, 9, 10, 11, 12, 15, 20, 21, 22] st st14 ∧ va_S (MA ar s.heap.size) s.heap H locs ∧ lv_has ls 4 [(0, .ref (ar 0)), (1, .int va)] ∧ stk = []) ?_ (41 - 0) _ _ _ _ ⟨st13, sl8, 0, rfl, by rw [est13, up2_same]; rfl, by omega, ⟨0, hT, hR, rfl⟩, LI.zero _, hF, by show st13 0 10 = st7 0 10; rw [est13, up2_ne (r := 0) (k := 40) (a := 0) (j := 10) _ _ (by omega)], hP, hG, hS, lv_sub hl [0, 1] rfl, rfl⟩
    rintro nn stk H locs ls ⟨st14, sl15, n16, hm21, en16, hv17_0, hv18_1, hv19_2, hv20_3, hv21_4, hP, hG, hS, hl, rfl⟩ ih22
    have hF := hv20_3
    have hK10 := hv21_4
    obtain ⟨p7, hT, hR, hbk⟩ := hv18_1
    have hli := hv19_2
    have hp9 := hT.2.2.2.2.2.2
    have hk1 := tkd_lt (B := B) (g := g) (m := m) (p := p7)
    have hk2 := tkx_le (B := B) (g := g) (m := m) (p := p7) hp9
    have hk3 := tka_le (B := B) (g := g) (m := m) (p := p7) hp9 hB.2.2.1
    have hk4 := tkv_lt (p := p7) hB hp9
    have hk5 := tkw_lt (B := B) (g := g) (m := m) (p := p7)
    refine lv_aload_n hx hb dX12_book_30 rfl (lv_at hl 0 rfl) ?_
    refine va_get (D := (dC, dI)) (ci := 11) (v := .int (st14 0 7)) (C := RX12) (T := TX12) (N := 47) hx hb hts ii_X12_book hown hK hP 0 rfl rfl 7 (by decide) (hts _ mm_X12_book_3) (fun _ hh => hh) rfl dX12_book_31 ?_
    refine zz_top (v := (nI (tkd B g m p7))) (by show st14 0 7 = _; rw [hT.2.2.1]) ?_
    refine lv_if_eq (tgt := 65) hx hb dX12_book_34 (by decide) (fun c2 => ?_) (fun c2 => ?_)
    · have c2 : (tkd B g m p7) = 0 := (nI_eq (a := (tkd B g m p7)) (b := 0) (by omega) (by omega)).mp c2
      have h010 : st14 0 10 = 0 := by rw [hK10, hf10]
      have hres : bBk B g m c nm 41 0 0 = (0, p7, n16) := hbk.trans (bBk_0 (by omega))
      refine lv_aload_n hx hb dX12_book_65 rfl (lv_at hl 0 rfl) ?_
      refine va_callv (va_runV (As := []) (rest := []) ⟨hx, hb, hml, hown, hts⟩ (m_layAside l dC dI ar cy _ hN st14 sl15 hG.1 ) (cwV 0 hts gX12_book_X12_layAside rfl rfl rfl (by decide +kernel) ⟨Nat.le_of_ble_eq_true rfl, Nat.le_of_ble_eq_true rfl⟩) ⟨fun a U g mk q => ⟨q.1, mPre.blind q.2⟩, va_recv hK hP (ci := 11) (q0 := 0) rfl rfl, fun U hU hW => ⟨rfl, mPre.of hP hK hU hW⟩⟩ rfl rfl hl.1 rfl (lv_room (Nat.le_of_ble_eq_true rfl)) dX12_book_66 ⟨Nat.le_of_ble_eq_true rfl, Nat.le_of_ble_eq_true rfl⟩) hS (fun q _ h => MA.le hS.1 q h) (MA.le hS.1) (fun x t H locs ht hvm hw hB9 _ _ hS => ?_)
      have hP := mB.at ht hB9
      clear hB9 ht hvm
      obtain ⟨st24, sl25⟩ := x
      obtain ⟨hG2, hLxst24, hw⟩ := hw
      dsimp only at hG2 hw
      have hP : va_P (dC, dI) vwCl (mw ar cy st24 sl25) _ := hP
      have hG : MG [2, 6, 7, 8, 9, 10, 11, 12, 15, 20, 21, 22] st st24 := hG.tr hG2 (by decide)
      have hMst24 : MG [1, 2, 3, 4, 5, 6, 7, 8, 9, 10, 11, 12, 13, 14, 15, 16, 17, 19, 20, 21, 22, 23] st14 st24 := hG2
      clear hG2
      clear hw
      refine lv_iconst (v := 0) hx hb dX12_book_69 (by decide) ?_
      refine lv_istore_n (lv' := [(2, .int 0), (0, .ref (ar 0)), (1, .int va)]) hx hb dX12_book_70 rfl hl (by decide) rfl (fun ls hl => ?_)
      refine lv_iconst (v := 0) hx hb dX12_book_71 (by decide) ?_
      refine lv_istore_n (lv' := [(3, .int 0), (2, .int 0), (0, .ref (ar 0)), (1, .int va)]) hx hb dX12_book_72 rfl hl (by decide) rfl (fun ls hl => ?_)
      refine zz_wf (fun n stk H locs ls => ∃ z26 : Int32, ∃ k27 : Nat, ∃ st28 : Nat → Nat → Int32, ∃ sl29 : Nat → Nat → Int64, n = 2 * (41 - k27) + (if (z26 : Int32) = 0 then 1 else 0) ∧ 0 ≤ k27 ∧ k27 < 41 ∧ st28 0 10 = 0 ∧ st28 0 40 = nI n16 ∧ LI st28 n16 ∧ va_P (dC, dI) vwCl (mw ar cy st28 sl29) H ∧ MG [2, 6, 7, 8, 9, 10, 11, 12, 15, 20, 21, 22] st st28 ∧ va_S (MA ar s.heap.size) s.heap H locs ∧ lv_has ls 4 [(3, .int z26), (2, .int (nI k27)), (0, .ref (ar 0)), (1, .int va)] ∧ stk = []) ?_ (2 * (41 - 0) + (if (0 : Int32) = 0 then 1 else 0)) _ _ _ _ ⟨0, 0, st24, sl25, rfl, by omega, by omega, by show st24 0 10 = 0; rw [hMst24.2 0 10 (by decide), h010], by show st24 0 40 = _; rw [hMst24.2 0 40 (by decide), en16], (LI.mg hMst24 (by decide) hli), hP, hG, hS, lv_sub hl [0, 1, 2, 3] rfl, rfl⟩
      rintro nn stk H locs ls ⟨z26, k27, st28, sl29, hm34, hv30_0, hv31_1, hv32_0, hv33_1, hv34_2, hP, hG, hS, hl, rfl⟩ ih35
      refine lv_iload_n hx hb dX12_book_73 rfl (lv_at hl 1 rfl) ?_
      refine lv_aload_n hx hb dX12_book_74 rfl (lv_at hl 2 rfl) ?_
      refine va_get (D := (dC, dI)) (ci := 11) (v := .int (st28 0 40)) (C := RX12) (T := TX12) (N := 47) hx hb hts ii_X12_book hown hK hP 0 rfl rfl 40 (by decide) (hts _ mm_X12_book_2) (fun _ hh => hh) rfl dX12_book_75 ?_
      refine zz_top (v := (nI n16)) (by show st28 0 40 = _; rw [hv33_1]) ?_
      refine lv_icmp_ge (tgt := 103) hx hb dX12_book_78 (by decide) (fun c3 => ?_) (fun c3 => ?_)
      · have c3 : n16 ≤ k27 := (nI_leI (a := n16) (b := k27) (by omega) (by omega)).mp c3
        refine lv_aload_n hx hb dX12_book_103 rfl (lv_at hl 2 rfl) ?_
        refine va_get (D := (dC, dI)) (ci := 11) (v := .ref (ar 15)) (C := RX12) (T := TX12) (N := 47) hx hb hts ii_X12_book hown hK hP 0 rfl rfl 39 (by decide) (hts _ mm_X12_book_5) (fun _ hh => hh) rfl dX12_book_104 ?_
        refine lv_iconst (v := 0) hx hb dX12_book_107 (by decide) ?_
        refine lv_iload_n hx hb dX12_book_108 rfl (lv_at hl 0 rfl) ?_
        refine va_iast hx hb hK hP (mD hN _ _ _ _) hS 15 14 rfl rfl (i := 0) (zz_in (by decide)) dX12_book_109 (fun H locs hP _ hS => ?_)
        have hP : va_P (dC, dI) vwCl (mw ar cy (up2 st28 15 0 z26) sl29) H := hP
        obtain ⟨st36, est36⟩ : ∃ y, y = up2 st28 15 0 z26 := ⟨_, rfl⟩
        have hG : MG [2, 6, 7, 8, 9, 10, 11, 12, 15, 20, 21, 22] st st36 := by rw [est36]; exact hG.up (rz (by decide : mr 15 0 = 0)) (pn (by decide : pcl 15 0 = 0) (by decide))
        rw [← est36] at hP
        refine lv_aload_n hx hb dX12_book_110 rfl (lv_at hl 2 rfl) ?_
        refine va_get (D := (dC, dI)) (ci := 11) (v := .ref (ar 15)) (C := RX12) (T := TX12) (N := 47) hx hb hts ii_X12_book hown hK hP 0 rfl rfl 39 (by decide) (hts _ mm_X12_book_5) (fun _ hh => hh) rfl dX12_book_111 ?_
        refine lv_iconst (v := 1) hx hb dX12_book_114 (by decide) ?_
        refine lv_iload_n hx hb dX12_book_115 rfl (lv_at hl 1 rfl) ?_
        refine va_iast hx hb hK hP (mD hN _ _ _ _) hS 15 14 rfl rfl (i := 1) (zz_in (by decide)) dX12_book_116 (fun H locs hP _ hS => ?_)
        have hP : va_P (dC, dI) vwCl (mw ar cy (up2 st36 15 1 (nI k27)) sl29) H := hP
        obtain ⟨st37, est37⟩ : ∃ y, y = up2 st36 15 1 (nI k27) := ⟨_, rfl⟩
        have hG : MG [2, 6, 7, 8, 9, 10, 11, 12, 15, 20, 21, 22] st st37 := by rw [est37]; exact hG.up (rz (by decide : mr 15 1 = 0)) (pn (by decide : pcl 15 1 = 0) (by decide))
        rw [← est37] at hP
        refine lv_aload_n hx hb dX12_book_117 rfl (lv_at hl 2 rfl) ?_
        refine va_get (D := (dC, dI)) (ci := 11) (v := .ref (ar 15)) (C := RX12) (T := TX12) (N := 47) hx hb hts ii_X12_book hown hK hP 0 rfl rfl 39 (by decide) (hts _ mm_X12_book_5) (fun _ hh => hh) rfl dX12_book_118 ?_
        refine lv_iconst (v := 2) hx hb dX12_book_121 (by decide) ?_
        refine lv_aload_n hx hb dX12_book_122 rfl (lv_at hl 2 rfl) ?_
        refine va_get (D := (dC, dI)) (ci := 11) (v := .ref (ar 2)) (C := RX12) (T := TX12) (N := 47) hx hb hts ii_X12_book hown hK hP 0 rfl rfl 14 (by decide) (hts _ mm_X12_book_6) (fun _ hh => hh) rfl dX12_book_123 ?_
        refine lv_bipush (v := 61) hx hb dX12_book_126 (by decide) ?_
        refine va_iald hx hb hK hP 2 1 rfl rfl (i := 61) (zz_in (by decide)) dX12_book_128 ?_
        refine lv_topi (fun z38 ez38 => ?_)
        refine va_iast hx hb hK hP (mD hN _ _ _ _) hS 15 14 rfl rfl (i := 2) (zz_in (by decide)) dX12_book_129 (fun H locs hP _ hS => ?_)
        have hP : va_P (dC, dI) vwCl (mw ar cy (up2 st37 15 2 z38) sl29) H := hP
        obtain ⟨st39, est39⟩ : ∃ y, y = up2 st37 15 2 z38 := ⟨_, rfl⟩
        have hG : MG [2, 6, 7, 8, 9, 10, 11, 12, 15, 20, 21, 22] st st39 := by rw [est39]; exact hG.up (rz (by decide : mr 15 2 = 0)) (pn (by decide : pcl 15 2 = 0) (by decide))
        rw [← est39] at hP
        refine lv_aload_n hx hb dX12_book_130 rfl (lv_at hl 2 rfl) ?_
        refine va_get (D := (dC, dI)) (ci := 11) (v := .ref (ar 15)) (C := RX12) (T := TX12) (N := 47) hx hb hts ii_X12_book hown hK hP 0 rfl rfl 39 (by decide) (hts _ mm_X12_book_5) (fun _ hh => hh) rfl dX12_book_131 ?_
        refine lv_iconst (v := 3) hx hb dX12_book_134 (by decide) ?_
        refine lv_aload_n hx hb dX12_book_135 rfl (lv_at hl 2 rfl) ?_
        refine va_calli (va_runV (As := []) (rest := [.int 3, .ref (ar 15)]) ⟨hx, hb, hml, hown, hts⟩ (m_awaySet l dC dI ar cy _ hN st39 sl29 hG.1 ) (cwV 0 hts gX12_book_X12_awaySet rfl rfl rfl (by decide +kernel) ⟨Nat.le_of_ble_eq_true rfl, Nat.le_of_ble_eq_true rfl⟩) ⟨fun a U g mk q => ⟨q.1, mPre.blind q.2⟩, va_recv hK hP (ci := 11) (q0 := 0) rfl rfl, fun U hU hW => ⟨rfl, mPre.of hP hK hU hW⟩⟩ rfl rfl hl.1 rfl (lv_room (Nat.le_of_ble_eq_true rfl)) dX12_book_136 ⟨Nat.le_of_ble_eq_true rfl, Nat.le_of_ble_eq_true rfl⟩) hS (fun q _ h => MA.le hS.1 q h) (MA.le hS.1) (fun r40 x t H locs ht hvm hw hB9 _ _ hS => ?_)
        have hP := mB.at ht hB9
        clear hB9 ht hvm
        obtain ⟨rfl, hw⟩ := hw
        have hP : va_P (dC, dI) vwCl (mw ar cy st39 sl29) _ := hP
        clear hw
        refine va_iast hx hb hK hP (mD hN _ _ _ _) hS 15 14 rfl rfl (i := 3) (zz_in (by decide)) dX12_book_139 (fun H locs hP _ hS => ?_)
        have hP : va_P (dC, dI) vwCl (mw ar cy (up2 st39 15 3 r40) sl29) H := hP
        obtain ⟨st41, est41⟩ : ∃ y, y = up2 st39 15 3 r40 := ⟨_, rfl⟩
        have hG : MG [2, 6, 7, 8, 9, 10, 11, 12, 15, 20, 21, 22] st st41 := by rw [est41]; exact hG.up (rz (by decide : mr 15 3 = 0)) (pn (by decide : pcl 15 3 = 0) (by decide))
        rw [← est41] at hP
        refine lv_aload_n hx hb dX12_book_140 rfl (lv_at hl 2 rfl) ?_
        refine lv_iconst (v := 1) hx hb dX12_book_141 (by decide) ?_
        refine va_put (D := (dC, dI)) (ci := 11) (v := .int 1) (ty := .boolean) (C := RX12) (T := TX12) (N := 47) hx hb hts ii_X12_book tyX12 tyX12_ok nmX12 hown hK hP (mD hN _ _ _ _) hS 0 rfl rfl 41 (by decide) (hts _ mm_X12_book_7) (fun _ hh => hh) rfl (by decide +kernel) rfl rfl (Nat.le_of_ble_eq_true rfl) dX12_book_142 (fun H locs hP _ hS => ?_)
        have hP : va_P (dC, dI) vwCl (mw ar cy (up2 st41 0 41 1) sl29) H := hP
        obtain ⟨st42, est42⟩ : ∃ y, y = up2 st41 0 41 1 := ⟨_, rfl⟩
        have hG : MG [2, 6, 7, 8, 9, 10, 11, 12, 15, 20, 21, 22] st st42 := by rw [est42]; exact hG.up (rz (by decide : mr 0 41 = 0)) (pn (by decide : pcl 0 41 = 0) (by decide))
        rw [← est42] at hP
        refine lv_aload_n hx hb dX12_book_145 rfl (lv_at hl 2 rfl) ?_
        refine lv_iload_n hx hb dX12_book_146 rfl (lv_at hl 3 rfl) ?_
        refine lv_iconst (v := 1) hx hb dX12_book_147 (by decide) ?_
        refine lv_icmp_ne (tgt := 159) hx hb dX12_book_148 (by decide) (fun c4 => ?_) (fun c4 => ?_)
        · refine lv_iconst (v := 0) hx hb dX12_book_159 (by decide) ?_
          refine va_callv (va_runV (As := [.int 0]) (rest := []) ⟨hx, hb, hml, hown, hts⟩ (m_stay0 l dC dI ar cy _ hN st42 sl29 hG.1 ) (cwV 1 hts gX12_book_X12_stay rfl rfl rfl (by decide +kernel) ⟨Nat.le_of_ble_eq_true rfl, Nat.le_of_ble_eq_true rfl⟩) ⟨fun a U g mk q => ⟨q.1, mPre.blind q.2⟩, va_recv hK hP (ci := 11) (q0 := 0) rfl rfl, fun U hU hW => ⟨rfl, mPre.of hP hK hU hW⟩⟩ rfl rfl hl.1 rfl (lv_room (Nat.le_of_ble_eq_true rfl)) dX12_book_160 ⟨Nat.le_of_ble_eq_true rfl, Nat.le_of_ble_eq_true rfl⟩) hS (fun q _ h => MA.le hS.1 q h) (MA.le hS.1) (fun x t H locs ht hvm hw hB9 _ _ hS => ?_)
          have hP := mB.at ht hB9
          clear hB9 ht hvm
          obtain ⟨st44, sl45⟩ := x
          obtain ⟨hG2, hLxst44, hw⟩ := hw
          dsimp only at hG2 hw
          have hP : va_P (dC, dI) vwCl (mw ar cy st44 sl45) _ := hP
          have hG : MG [2, 6, 7, 8, 9, 10, 11, 12, 15, 20, 21, 22] st st44 := hG.tr hG2 (by decide)
          have hMst44 : MG [1, 2, 3, 4, 5, 6, 7, 8, 9, 10, 11, 12, 13, 14, 15, 16, 17, 19, 20, 21, 22, 23] st42 st44 := hG2
          clear hG2
          clear hw
          refine lv_iload_n hx hb dX12_book_163 rfl (lv_at hl 0 rfl) ?_
          refine lv_if_ne (tgt := 171) hx hb dX12_book_164 (by decide) (fun c5 => ?_) (fun c5 => ?_)
          · refine lv_iload_n hx hb dX12_book_171 rfl (lv_at hl 1 rfl) ?_
            have hft9 : st44 0 10 = nI (bBk B g m c nm 41 0 0).1 := by rw [hres]; exact (show st44 0 10 = 0 by rw [hMst44.2 0 10 (by decide), est42, up2_ne (r := 0) (k := 41) (a := 0) (j := 10) _ _ (by omega), est41, up2_ne (r := 15) (k := 3) (a := 0) (j := 10) _ _ (by omega), est39, up2_ne (r := 15) (k := 2) (a := 0) (j := 10) _ _ (by omega), est37, up2_ne (r := 15) (k := 1) (a := 0) (j := 10) _ _ (by omega), est36, up2_ne (r := 15) (k := 0) (a := 0) (j := 10) _ _ (by omega), hv32_0])
            subst hm
            exact W.iret (v := (nI k27)) hx hb hr (fun t ht hW => ⟨⟨(nI k27), (st44, sl45), rfl, ⟨hG, Or.inl ⟨zz_01 hf3 hf4, hft9⟩⟩, mB.of ht hP⟩, hS.F ht⟩) hS.2.2 dX12_book_172
          · refine lv_iconst (v := (-1)) hx hb dX12_book_167 (by decide) ?_
            refine lv_goto (tgt := 172) hx hb dX12_book_168 (by decide) ?_
            have hft9 : st44 0 10 = nI (bBk B g m c nm 41 0 0).1 := by rw [hres]; exact (show st44 0 10 = 0 by rw [hMst44.2 0 10 (by decide), est42, up2_ne (r := 0) (k := 41) (a := 0) (j := 10) _ _ (by omega), est41, up2_ne (r := 15) (k := 3) (a := 0) (j := 10) _ _ (by omega), est39, up2_ne (r := 15) (k := 2) (a := 0) (j := 10) _ _ (by omega), est37, up2_ne (r := 15) (k := 1) (a := 0) (j := 10) _ _ (by omega), est36, up2_ne (r := 15) (k := 0) (a := 0) (j := 10) _ _ (by omega), hv32_0])
            subst hm
            exact W.iret (v := (-1)) hx hb hr (fun t ht hW => ⟨⟨(-1), (st44, sl45), rfl, ⟨hG, Or.inl ⟨zz_01 hf3 hf4, hft9⟩⟩, mB.of ht hP⟩, hS.F ht⟩) hS.2.2 dX12_book_172
        · refine lv_iload_n hx hb dX12_book_151 rfl (lv_at hl 1 rfl) ?_
          refine lv_if_le (tgt := 159) hx hb dX12_book_152 (by decide) (fun c6 => ?_) (fun c6 => ?_)
          · have c6 : k27 ≤ 0 := (nI_leI (a := k27) (b := 0) (by omega) (by omega)).mp c6
            refine lv_iconst (v := 0) hx hb dX12_book_159 (by decide) ?_
            refine va_callv (va_runV (As := [.int 0]) (rest := []) ⟨hx, hb, hml, hown, hts⟩ (m_stay0 l dC dI ar cy _ hN st42 sl29 hG.1 ) (cwV 1 hts gX12_book_X12_stay rfl rfl rfl (by decide +kernel) ⟨Nat.le_of_ble_eq_true rfl, Nat.le_of_ble_eq_true rfl⟩) ⟨fun a U g mk q => ⟨q.1, mPre.blind q.2⟩, va_recv hK hP (ci := 11) (q0 := 0) rfl rfl, fun U hU hW => ⟨rfl, mPre.of hP hK hU hW⟩⟩ rfl rfl hl.1 rfl (lv_room (Nat.le_of_ble_eq_true rfl)) dX12_book_160 ⟨Nat.le_of_ble_eq_true rfl, Nat.le_of_ble_eq_true rfl⟩) hS (fun q _ h => MA.le hS.1 q h) (MA.le hS.1) (fun x t H locs ht hvm hw hB9 _ _ hS => ?_)
            have hP := mB.at ht hB9
            clear hB9 ht hvm
            obtain ⟨st47, sl48⟩ := x
            obtain ⟨hG2, hLxst47, hw⟩ := hw
            dsimp only at hG2 hw
            have hP : va_P (dC, dI) vwCl (mw ar cy st47 sl48) _ := hP
            have hG : MG [2, 6, 7, 8, 9, 10, 11, 12, 15, 20, 21, 22] st st47 := hG.tr hG2 (by decide)
            have hMst47 : MG [1, 2, 3, 4, 5, 6, 7, 8, 9, 10, 11, 12, 13, 14, 15, 16, 17, 19, 20, 21, 22, 23] st42 st47 := hG2
            clear hG2
            clear hw
            refine lv_iload_n hx hb dX12_book_163 rfl (lv_at hl 0 rfl) ?_
            refine lv_if_ne (tgt := 171) hx hb dX12_book_164 (by decide) (fun c7 => ?_) (fun c7 => ?_)
            · refine lv_iload_n hx hb dX12_book_171 rfl (lv_at hl 1 rfl) ?_
              have hft9 : st47 0 10 = nI (bBk B g m c nm 41 0 0).1 := by rw [hres]; exact (show st47 0 10 = 0 by rw [hMst47.2 0 10 (by decide), est42, up2_ne (r := 0) (k := 41) (a := 0) (j := 10) _ _ (by omega), est41, up2_ne (r := 15) (k := 3) (a := 0) (j := 10) _ _ (by omega), est39, up2_ne (r := 15) (k := 2) (a := 0) (j := 10) _ _ (by omega), est37, up2_ne (r := 15) (k := 1) (a := 0) (j := 10) _ _ (by omega), est36, up2_ne (r := 15) (k := 0) (a := 0) (j := 10) _ _ (by omega), hv32_0])
              subst hm
              exact W.iret (v := (nI k27)) hx hb hr (fun t ht hW => ⟨⟨(nI k27), (st47, sl48), rfl, ⟨hG, Or.inl ⟨zz_01 hf3 hf4, hft9⟩⟩, mB.of ht hP⟩, hS.F ht⟩) hS.2.2 dX12_book_172
            · refine lv_iconst (v := (-1)) hx hb dX12_book_167 (by decide) ?_
              refine lv_goto (tgt := 172) hx hb dX12_book_168 (by decide) ?_
              have hft9 : st47 0 10 = nI (bBk B g m c nm 41 0 0).1 := by rw [hres]; exact (show st47 0 10 = 0 by rw [hMst47.2 0 10 (by decide), est42, up2_ne (r := 0) (k := 41) (a := 0) (j := 10) _ _ (by omega), est41, up2_ne (r := 15) (k := 3) (a := 0) (j := 10) _ _ (by omega), est39, up2_ne (r := 15) (k := 2) (a := 0) (j := 10) _ _ (by omega), est37, up2_ne (r := 15) (k := 1) (a := 0) (j := 10) _ _ (by omega), est36, up2_ne (r := 15) (k := 0) (a := 0) (j := 10) _ _ (by omega), hv32_0])
              subst hm
              exact W.iret (v := (-1)) hx hb hr (fun t ht hW => ⟨⟨(-1), (st47, sl48), rfl, ⟨hG, Or.inl ⟨zz_01 hf3 hf4, hft9⟩⟩, mB.of ht hP⟩, hS.F ht⟩) hS.2.2 dX12_book_172
          · have c6 : ¬ k27 ≤ 0 := fun hh => c6 ((nI_leI (a := k27) (b := 0) (by omega) (by omega)).mpr hh)
            refine lv_iconst (v := 1) hx hb dX12_book_155 (by decide) ?_
            refine lv_goto (tgt := 160) hx hb dX12_book_156 (by decide) ?_
            refine va_callv (va_runV (As := [.int 1]) (rest := []) ⟨hx, hb, hml, hown, hts⟩ (m_stay1 l dC dI ar cy _ hN st42 sl29 hG.1 ) (cwV 1 hts gX12_book_X12_stay rfl rfl rfl (by decide +kernel) ⟨Nat.le_of_ble_eq_true rfl, Nat.le_of_ble_eq_true rfl⟩) ⟨fun a U g mk q => ⟨q.1, mPre.blind q.2⟩, va_recv hK hP (ci := 11) (q0 := 0) rfl rfl, fun U hU hW => ⟨rfl, mPre.of hP hK hU hW⟩⟩ rfl rfl hl.1 rfl (lv_room (Nat.le_of_ble_eq_true rfl)) dX12_book_160 ⟨Nat.le_of_ble_eq_true rfl, Nat.le_of_ble_eq_true rfl⟩) hS (fun q _ h => MA.le hS.1 q h) (MA.le hS.1) (fun x t H locs ht hvm hw hB9 _ _ hS => ?_)
            have hP := mB.at ht hB9
            clear hB9 ht hvm
            obtain ⟨st50, sl51⟩ := x
            obtain ⟨hG2, hLxst50, hw⟩ := hw
            dsimp only at hG2 hw
            have hP : va_P (dC, dI) vwCl (mw ar cy st50 sl51) _ := hP
            have hG : MG [2, 6, 7, 8, 9, 10, 11, 12, 15, 20, 21, 22] st st50 := hG.tr hG2 (by decide)
            have hMst50 : MG [1, 2, 3, 4, 5, 6, 7, 8, 9, 10, 11, 12, 13, 14, 15, 16, 17, 19, 20, 21, 22, 23] st42 st50 := hG2
            clear hG2
            clear hw
            refine lv_iload_n hx hb dX12_book_163 rfl (lv_at hl 0 rfl) ?_
            refine lv_if_ne (tgt := 171) hx hb dX12_book_164 (by decide) (fun c8 => ?_) (fun c8 => ?_)
            · refine lv_iload_n hx hb dX12_book_171 rfl (lv_at hl 1 rfl) ?_
              have hft9 : st50 0 10 = nI (bBk B g m c nm 41 0 0).1 := by rw [hres]; exact (show st50 0 10 = 0 by rw [hMst50.2 0 10 (by decide), est42, up2_ne (r := 0) (k := 41) (a := 0) (j := 10) _ _ (by omega), est41, up2_ne (r := 15) (k := 3) (a := 0) (j := 10) _ _ (by omega), est39, up2_ne (r := 15) (k := 2) (a := 0) (j := 10) _ _ (by omega), est37, up2_ne (r := 15) (k := 1) (a := 0) (j := 10) _ _ (by omega), est36, up2_ne (r := 15) (k := 0) (a := 0) (j := 10) _ _ (by omega), hv32_0])
              subst hm
              exact W.iret (v := (nI k27)) hx hb hr (fun t ht hW => ⟨⟨(nI k27), (st50, sl51), rfl, ⟨hG, Or.inl ⟨zz_01 hf3 hf4, hft9⟩⟩, mB.of ht hP⟩, hS.F ht⟩) hS.2.2 dX12_book_172
            · refine lv_iconst (v := (-1)) hx hb dX12_book_167 (by decide) ?_
              refine lv_goto (tgt := 172) hx hb dX12_book_168 (by decide) ?_
              have hft9 : st50 0 10 = nI (bBk B g m c nm 41 0 0).1 := by rw [hres]; exact (show st50 0 10 = 0 by rw [hMst50.2 0 10 (by decide), est42, up2_ne (r := 0) (k := 41) (a := 0) (j := 10) _ _ (by omega), est41, up2_ne (r := 15) (k := 3) (a := 0) (j := 10) _ _ (by omega), est39, up2_ne (r := 15) (k := 2) (a := 0) (j := 10) _ _ (by omega), est37, up2_ne (r := 15) (k := 1) (a := 0) (j := 10) _ _ (by omega), est36, up2_ne (r := 15) (k := 0) (a := 0) (j := 10) _ _ (by omega), hv32_0])
              subst hm
              exact W.iret (v := (-1)) hx hb hr (fun t ht hW => ⟨⟨(-1), (st50, sl51), rfl, ⟨hG, Or.inl ⟨zz_01 hf3 hf4, hft9⟩⟩, mB.of ht hP⟩, hS.F ht⟩) hS.2.2 dX12_book_172
      · have c3 : ¬ n16 ≤ k27 := fun hh => c3 ((nI_leI (a := n16) (b := k27) (by omega) (by omega)).mpr hh)
        refine lv_iload_n hx hb dX12_book_81 rfl (lv_at hl 0 rfl) ?_
        refine lv_if_ne (tgt := 103) hx hb dX12_book_82 (by decide) (fun c9 => ?_) (fun c9 => ?_)
        · refine lv_aload_n hx hb dX12_book_103 rfl (lv_at hl 2 rfl) ?_
          refine va_get (D := (dC, dI)) (ci := 11) (v := .ref (ar 15)) (C := RX12) (T := TX12) (N := 47) hx hb hts ii_X12_book hown hK hP 0 rfl rfl 39 (by decide) (hts _ mm_X12_book_5) (fun _ hh => hh) rfl dX12_book_104 ?_
          refine lv_iconst (v := 0) hx hb dX12_book_107 (by decide) ?_
          refine lv_iload_n hx hb dX12_book_108 rfl (lv_at hl 0 rfl) ?_
          refine va_iast hx hb hK hP (mD hN _ _ _ _) hS 15 14 rfl rfl (i := 0) (zz_in (by decide)) dX12_book_109 (fun H locs hP _ hS => ?_)
          have hP : va_P (dC, dI) vwCl (mw ar cy (up2 st28 15 0 z26) sl29) H := hP
          obtain ⟨st52, est52⟩ : ∃ y, y = up2 st28 15 0 z26 := ⟨_, rfl⟩
          have hG : MG [2, 6, 7, 8, 9, 10, 11, 12, 15, 20, 21, 22] st st52 := by rw [est52]; exact hG.up (rz (by decide : mr 15 0 = 0)) (pn (by decide : pcl 15 0 = 0) (by decide))
          rw [← est52] at hP
          refine lv_aload_n hx hb dX12_book_110 rfl (lv_at hl 2 rfl) ?_
          refine va_get (D := (dC, dI)) (ci := 11) (v := .ref (ar 15)) (C := RX12) (T := TX12) (N := 47) hx hb hts ii_X12_book hown hK hP 0 rfl rfl 39 (by decide) (hts _ mm_X12_book_5) (fun _ hh => hh) rfl dX12_book_111 ?_
          refine lv_iconst (v := 1) hx hb dX12_book_114 (by decide) ?_
          refine lv_iload_n hx hb dX12_book_115 rfl (lv_at hl 1 rfl) ?_
          refine va_iast hx hb hK hP (mD hN _ _ _ _) hS 15 14 rfl rfl (i := 1) (zz_in (by decide)) dX12_book_116 (fun H locs hP _ hS => ?_)
          have hP : va_P (dC, dI) vwCl (mw ar cy (up2 st52 15 1 (nI k27)) sl29) H := hP
          obtain ⟨st53, est53⟩ : ∃ y, y = up2 st52 15 1 (nI k27) := ⟨_, rfl⟩
          have hG : MG [2, 6, 7, 8, 9, 10, 11, 12, 15, 20, 21, 22] st st53 := by rw [est53]; exact hG.up (rz (by decide : mr 15 1 = 0)) (pn (by decide : pcl 15 1 = 0) (by decide))
          rw [← est53] at hP
          refine lv_aload_n hx hb dX12_book_117 rfl (lv_at hl 2 rfl) ?_
          refine va_get (D := (dC, dI)) (ci := 11) (v := .ref (ar 15)) (C := RX12) (T := TX12) (N := 47) hx hb hts ii_X12_book hown hK hP 0 rfl rfl 39 (by decide) (hts _ mm_X12_book_5) (fun _ hh => hh) rfl dX12_book_118 ?_
          refine lv_iconst (v := 2) hx hb dX12_book_121 (by decide) ?_
          refine lv_aload_n hx hb dX12_book_122 rfl (lv_at hl 2 rfl) ?_
          refine va_get (D := (dC, dI)) (ci := 11) (v := .ref (ar 2)) (C := RX12) (T := TX12) (N := 47) hx hb hts ii_X12_book hown hK hP 0 rfl rfl 14 (by decide) (hts _ mm_X12_book_6) (fun _ hh => hh) rfl dX12_book_123 ?_
          refine lv_bipush (v := 61) hx hb dX12_book_126 (by decide) ?_
          refine va_iald hx hb hK hP 2 1 rfl rfl (i := 61) (zz_in (by decide)) dX12_book_128 ?_
          refine lv_topi (fun z54 ez54 => ?_)
          refine va_iast hx hb hK hP (mD hN _ _ _ _) hS 15 14 rfl rfl (i := 2) (zz_in (by decide)) dX12_book_129 (fun H locs hP _ hS => ?_)
          have hP : va_P (dC, dI) vwCl (mw ar cy (up2 st53 15 2 z54) sl29) H := hP
          obtain ⟨st55, est55⟩ : ∃ y, y = up2 st53 15 2 z54 := ⟨_, rfl⟩
          have hG : MG [2, 6, 7, 8, 9, 10, 11, 12, 15, 20, 21, 22] st st55 := by rw [est55]; exact hG.up (rz (by decide : mr 15 2 = 0)) (pn (by decide : pcl 15 2 = 0) (by decide))
          rw [← est55] at hP
          refine lv_aload_n hx hb dX12_book_130 rfl (lv_at hl 2 rfl) ?_
          refine va_get (D := (dC, dI)) (ci := 11) (v := .ref (ar 15)) (C := RX12) (T := TX12) (N := 47) hx hb hts ii_X12_book hown hK hP 0 rfl rfl 39 (by decide) (hts _ mm_X12_book_5) (fun _ hh => hh) rfl dX12_book_131 ?_
          refine lv_iconst (v := 3) hx hb dX12_book_134 (by decide) ?_
          refine lv_aload_n hx hb dX12_book_135 rfl (lv_at hl 2 rfl) ?_
          refine va_calli (va_runV (As := []) (rest := [.int 3, .ref (ar 15)]) ⟨hx, hb, hml, hown, hts⟩ (m_awaySet l dC dI ar cy _ hN st55 sl29 hG.1 ) (cwV 0 hts gX12_book_X12_awaySet rfl rfl rfl (by decide +kernel) ⟨Nat.le_of_ble_eq_true rfl, Nat.le_of_ble_eq_true rfl⟩) ⟨fun a U g mk q => ⟨q.1, mPre.blind q.2⟩, va_recv hK hP (ci := 11) (q0 := 0) rfl rfl, fun U hU hW => ⟨rfl, mPre.of hP hK hU hW⟩⟩ rfl rfl hl.1 rfl (lv_room (Nat.le_of_ble_eq_true rfl)) dX12_book_136 ⟨Nat.le_of_ble_eq_true rfl, Nat.le_of_ble_eq_true rfl⟩) hS (fun q _ h => MA.le hS.1 q h) (MA.le hS.1) (fun r56 x t H locs ht hvm hw hB9 _ _ hS => ?_)
          have hP := mB.at ht hB9
          clear hB9 ht hvm
          obtain ⟨rfl, hw⟩ := hw
          have hP : va_P (dC, dI) vwCl (mw ar cy st55 sl29) _ := hP
          clear hw
          refine va_iast hx hb hK hP (mD hN _ _ _ _) hS 15 14 rfl rfl (i := 3) (zz_in (by decide)) dX12_book_139 (fun H locs hP _ hS => ?_)
          have hP : va_P (dC, dI) vwCl (mw ar cy (up2 st55 15 3 r56) sl29) H := hP
          obtain ⟨st57, est57⟩ : ∃ y, y = up2 st55 15 3 r56 := ⟨_, rfl⟩
          have hG : MG [2, 6, 7, 8, 9, 10, 11, 12, 15, 20, 21, 22] st st57 := by rw [est57]; exact hG.up (rz (by decide : mr 15 3 = 0)) (pn (by decide : pcl 15 3 = 0) (by decide))
          rw [← est57] at hP
          refine lv_aload_n hx hb dX12_book_140 rfl (lv_at hl 2 rfl) ?_
          refine lv_iconst (v := 1) hx hb dX12_book_141 (by decide) ?_
          refine va_put (D := (dC, dI)) (ci := 11) (v := .int 1) (ty := .boolean) (C := RX12) (T := TX12) (N := 47) hx hb hts ii_X12_book tyX12 tyX12_ok nmX12 hown hK hP (mD hN _ _ _ _) hS 0 rfl rfl 41 (by decide) (hts _ mm_X12_book_7) (fun _ hh => hh) rfl (by decide +kernel) rfl rfl (Nat.le_of_ble_eq_true rfl) dX12_book_142 (fun H locs hP _ hS => ?_)
          have hP : va_P (dC, dI) vwCl (mw ar cy (up2 st57 0 41 1) sl29) H := hP
          obtain ⟨st58, est58⟩ : ∃ y, y = up2 st57 0 41 1 := ⟨_, rfl⟩
          have hG : MG [2, 6, 7, 8, 9, 10, 11, 12, 15, 20, 21, 22] st st58 := by rw [est58]; exact hG.up (rz (by decide : mr 0 41 = 0)) (pn (by decide : pcl 0 41 = 0) (by decide))
          rw [← est58] at hP
          refine lv_aload_n hx hb dX12_book_145 rfl (lv_at hl 2 rfl) ?_
          refine lv_iload_n hx hb dX12_book_146 rfl (lv_at hl 3 rfl) ?_
          refine lv_iconst (v := 1) hx hb dX12_book_147 (by decide) ?_
          refine lv_icmp_ne (tgt := 159) hx hb dX12_book_148 (by decide) (fun c10 => ?_) (fun c10 => ?_)
          · refine lv_iconst (v := 0) hx hb dX12_book_159 (by decide) ?_
            refine va_callv (va_runV (As := [.int 0]) (rest := []) ⟨hx, hb, hml, hown, hts⟩ (m_stay0 l dC dI ar cy _ hN st58 sl29 hG.1 ) (cwV 1 hts gX12_book_X12_stay rfl rfl rfl (by decide +kernel) ⟨Nat.le_of_ble_eq_true rfl, Nat.le_of_ble_eq_true rfl⟩) ⟨fun a U g mk q => ⟨q.1, mPre.blind q.2⟩, va_recv hK hP (ci := 11) (q0 := 0) rfl rfl, fun U hU hW => ⟨rfl, mPre.of hP hK hU hW⟩⟩ rfl rfl hl.1 rfl (lv_room (Nat.le_of_ble_eq_true rfl)) dX12_book_160 ⟨Nat.le_of_ble_eq_true rfl, Nat.le_of_ble_eq_true rfl⟩) hS (fun q _ h => MA.le hS.1 q h) (MA.le hS.1) (fun x t H locs ht hvm hw hB9 _ _ hS => ?_)
            have hP := mB.at ht hB9
            clear hB9 ht hvm
            obtain ⟨st60, sl61⟩ := x
            obtain ⟨hG2, hLxst60, hw⟩ := hw
            dsimp only at hG2 hw
            have hP : va_P (dC, dI) vwCl (mw ar cy st60 sl61) _ := hP
            have hG : MG [2, 6, 7, 8, 9, 10, 11, 12, 15, 20, 21, 22] st st60 := hG.tr hG2 (by decide)
            have hMst60 : MG [1, 2, 3, 4, 5, 6, 7, 8, 9, 10, 11, 12, 13, 14, 15, 16, 17, 19, 20, 21, 22, 23] st58 st60 := hG2
            clear hG2
            clear hw
            refine lv_iload_n hx hb dX12_book_163 rfl (lv_at hl 0 rfl) ?_
            refine lv_if_ne (tgt := 171) hx hb dX12_book_164 (by decide) (fun c11 => ?_) (fun c11 => ?_)
            · refine lv_iload_n hx hb dX12_book_171 rfl (lv_at hl 1 rfl) ?_
              have hft9 : st60 0 10 = nI (bBk B g m c nm 41 0 0).1 := by rw [hres]; exact (show st60 0 10 = 0 by rw [hMst60.2 0 10 (by decide), est58, up2_ne (r := 0) (k := 41) (a := 0) (j := 10) _ _ (by omega), est57, up2_ne (r := 15) (k := 3) (a := 0) (j := 10) _ _ (by omega), est55, up2_ne (r := 15) (k := 2) (a := 0) (j := 10) _ _ (by omega), est53, up2_ne (r := 15) (k := 1) (a := 0) (j := 10) _ _ (by omega), est52, up2_ne (r := 15) (k := 0) (a := 0) (j := 10) _ _ (by omega), hv32_0])
              subst hm
              exact W.iret (v := (nI k27)) hx hb hr (fun t ht hW => ⟨⟨(nI k27), (st60, sl61), rfl, ⟨hG, Or.inl ⟨zz_01 hf3 hf4, hft9⟩⟩, mB.of ht hP⟩, hS.F ht⟩) hS.2.2 dX12_book_172
            · refine lv_iconst (v := (-1)) hx hb dX12_book_167 (by decide) ?_
              refine lv_goto (tgt := 172) hx hb dX12_book_168 (by decide) ?_
              have hft9 : st60 0 10 = nI (bBk B g m c nm 41 0 0).1 := by rw [hres]; exact (show st60 0 10 = 0 by rw [hMst60.2 0 10 (by decide), est58, up2_ne (r := 0) (k := 41) (a := 0) (j := 10) _ _ (by omega), est57, up2_ne (r := 15) (k := 3) (a := 0) (j := 10) _ _ (by omega), est55, up2_ne (r := 15) (k := 2) (a := 0) (j := 10) _ _ (by omega), est53, up2_ne (r := 15) (k := 1) (a := 0) (j := 10) _ _ (by omega), est52, up2_ne (r := 15) (k := 0) (a := 0) (j := 10) _ _ (by omega), hv32_0])
              subst hm
              exact W.iret (v := (-1)) hx hb hr (fun t ht hW => ⟨⟨(-1), (st60, sl61), rfl, ⟨hG, Or.inl ⟨zz_01 hf3 hf4, hft9⟩⟩, mB.of ht hP⟩, hS.F ht⟩) hS.2.2 dX12_book_172
          · refine lv_iload_n hx hb dX12_book_151 rfl (lv_at hl 1 rfl) ?_
            refine lv_if_le (tgt := 159) hx hb dX12_book_152 (by decide) (fun c12 => ?_) (fun c12 => ?_)
            · have c12 : k27 ≤ 0 := (nI_leI (a := k27) (b := 0) (by omega) (by omega)).mp c12
              refine lv_iconst (v := 0) hx hb dX12_book_159 (by decide) ?_
              refine va_callv (va_runV (As := [.int 0]) (rest := []) ⟨hx, hb, hml, hown, hts⟩ (m_stay0 l dC dI ar cy _ hN st58 sl29 hG.1 ) (cwV 1 hts gX12_book_X12_stay rfl rfl rfl (by decide +kernel) ⟨Nat.le_of_ble_eq_true rfl, Nat.le_of_ble_eq_true rfl⟩) ⟨fun a U g mk q => ⟨q.1, mPre.blind q.2⟩, va_recv hK hP (ci := 11) (q0 := 0) rfl rfl, fun U hU hW => ⟨rfl, mPre.of hP hK hU hW⟩⟩ rfl rfl hl.1 rfl (lv_room (Nat.le_of_ble_eq_true rfl)) dX12_book_160 ⟨Nat.le_of_ble_eq_true rfl, Nat.le_of_ble_eq_true rfl⟩) hS (fun q _ h => MA.le hS.1 q h) (MA.le hS.1) (fun x t H locs ht hvm hw hB9 _ _ hS => ?_)
              have hP := mB.at ht hB9
              clear hB9 ht hvm
              obtain ⟨st63, sl64⟩ := x
              obtain ⟨hG2, hLxst63, hw⟩ := hw
              dsimp only at hG2 hw
              have hP : va_P (dC, dI) vwCl (mw ar cy st63 sl64) _ := hP
              have hG : MG [2, 6, 7, 8, 9, 10, 11, 12, 15, 20, 21, 22] st st63 := hG.tr hG2 (by decide)
              have hMst63 : MG [1, 2, 3, 4, 5, 6, 7, 8, 9, 10, 11, 12, 13, 14, 15, 16, 17, 19, 20, 21, 22, 23] st58 st63 := hG2
              clear hG2
              clear hw
              refine lv_iload_n hx hb dX12_book_163 rfl (lv_at hl 0 rfl) ?_
              refine lv_if_ne (tgt := 171) hx hb dX12_book_164 (by decide) (fun c13 => ?_) (fun c13 => ?_)
              · refine lv_iload_n hx hb dX12_book_171 rfl (lv_at hl 1 rfl) ?_
                have hft9 : st63 0 10 = nI (bBk B g m c nm 41 0 0).1 := by rw [hres]; exact (show st63 0 10 = 0 by rw [hMst63.2 0 10 (by decide), est58, up2_ne (r := 0) (k := 41) (a := 0) (j := 10) _ _ (by omega), est57, up2_ne (r := 15) (k := 3) (a := 0) (j := 10) _ _ (by omega), est55, up2_ne (r := 15) (k := 2) (a := 0) (j := 10) _ _ (by omega), est53, up2_ne (r := 15) (k := 1) (a := 0) (j := 10) _ _ (by omega), est52, up2_ne (r := 15) (k := 0) (a := 0) (j := 10) _ _ (by omega), hv32_0])
                subst hm
                exact W.iret (v := (nI k27)) hx hb hr (fun t ht hW => ⟨⟨(nI k27), (st63, sl64), rfl, ⟨hG, Or.inl ⟨zz_01 hf3 hf4, hft9⟩⟩, mB.of ht hP⟩, hS.F ht⟩) hS.2.2 dX12_book_172
              · refine lv_iconst (v := (-1)) hx hb dX12_book_167 (by decide) ?_
                refine lv_goto (tgt := 172) hx hb dX12_book_168 (by decide) ?_
                have hft9 : st63 0 10 = nI (bBk B g m c nm 41 0 0).1 := by rw [hres]; exact (show st63 0 10 = 0 by rw [hMst63.2 0 10 (by decide), est58, up2_ne (r := 0) (k := 41) (a := 0) (j := 10) _ _ (by omega), est57, up2_ne (r := 15) (k := 3) (a := 0) (j := 10) _ _ (by omega), est55, up2_ne (r := 15) (k := 2) (a := 0) (j := 10) _ _ (by omega), est53, up2_ne (r := 15) (k := 1) (a := 0) (j := 10) _ _ (by omega), est52, up2_ne (r := 15) (k := 0) (a := 0) (j := 10) _ _ (by omega), hv32_0])
                subst hm
                exact W.iret (v := (-1)) hx hb hr (fun t ht hW => ⟨⟨(-1), (st63, sl64), rfl, ⟨hG, Or.inl ⟨zz_01 hf3 hf4, hft9⟩⟩, mB.of ht hP⟩, hS.F ht⟩) hS.2.2 dX12_book_172
            · have c12 : ¬ k27 ≤ 0 := fun hh => c12 ((nI_leI (a := k27) (b := 0) (by omega) (by omega)).mpr hh)
              refine lv_iconst (v := 1) hx hb dX12_book_155 (by decide) ?_
              refine lv_goto (tgt := 160) hx hb dX12_book_156 (by decide) ?_
              refine va_callv (va_runV (As := [.int 1]) (rest := []) ⟨hx, hb, hml, hown, hts⟩ (m_stay1 l dC dI ar cy _ hN st58 sl29 hG.1 ) (cwV 1 hts gX12_book_X12_stay rfl rfl rfl (by decide +kernel) ⟨Nat.le_of_ble_eq_true rfl, Nat.le_of_ble_eq_true rfl⟩) ⟨fun a U g mk q => ⟨q.1, mPre.blind q.2⟩, va_recv hK hP (ci := 11) (q0 := 0) rfl rfl, fun U hU hW => ⟨rfl, mPre.of hP hK hU hW⟩⟩ rfl rfl hl.1 rfl (lv_room (Nat.le_of_ble_eq_true rfl)) dX12_book_160 ⟨Nat.le_of_ble_eq_true rfl, Nat.le_of_ble_eq_true rfl⟩) hS (fun q _ h => MA.le hS.1 q h) (MA.le hS.1) (fun x t H locs ht hvm hw hB9 _ _ hS => ?_)
              have hP := mB.at ht hB9
              clear hB9 ht hvm
              obtain ⟨st66, sl67⟩ := x
              obtain ⟨hG2, hLxst66, hw⟩ := hw
              dsimp only at hG2 hw
              have hP : va_P (dC, dI) vwCl (mw ar cy st66 sl67) _ := hP
              have hG : MG [2, 6, 7, 8, 9, 10, 11, 12, 15, 20, 21, 22] st st66 := hG.tr hG2 (by decide)
              have hMst66 : MG [1, 2, 3, 4, 5, 6, 7, 8, 9, 10, 11, 12, 13, 14, 15, 16, 17, 19, 20, 21, 22, 23] st58 st66 := hG2
              clear hG2
              clear hw
              refine lv_iload_n hx hb dX12_book_163 rfl (lv_at hl 0 rfl) ?_
              refine lv_if_ne (tgt := 171) hx hb dX12_book_164 (by decide) (fun c14 => ?_) (fun c14 => ?_)
              · refine lv_iload_n hx hb dX12_book_171 rfl (lv_at hl 1 rfl) ?_
                have hft9 : st66 0 10 = nI (bBk B g m c nm 41 0 0).1 := by rw [hres]; exact (show st66 0 10 = 0 by rw [hMst66.2 0 10 (by decide), est58, up2_ne (r := 0) (k := 41) (a := 0) (j := 10) _ _ (by omega), est57, up2_ne (r := 15) (k := 3) (a := 0) (j := 10) _ _ (by omega), est55, up2_ne (r := 15) (k := 2) (a := 0) (j := 10) _ _ (by omega), est53, up2_ne (r := 15) (k := 1) (a := 0) (j := 10) _ _ (by omega), est52, up2_ne (r := 15) (k := 0) (a := 0) (j := 10) _ _ (by omega), hv32_0])
                subst hm
                exact W.iret (v := (nI k27)) hx hb hr (fun t ht hW => ⟨⟨(nI k27), (st66, sl67), rfl, ⟨hG, Or.inl ⟨zz_01 hf3 hf4, hft9⟩⟩, mB.of ht hP⟩, hS.F ht⟩) hS.2.2 dX12_book_172
              · refine lv_iconst (v := (-1)) hx hb dX12_book_167 (by decide) ?_
                refine lv_goto (tgt := 172) hx hb dX12_book_168 (by decide) ?_
                have hft9 : st66 0 10 = nI (bBk B g m c nm 41 0 0).1 := by rw [hres]; exact (show st66 0 10 = 0 by rw [hMst66.2 0 10 (by decide), est58, up2_ne (r := 0) (k := 41) (a := 0) (j := 10) _ _ (by omega), est57, up2_ne (r := 15) (k := 3) (a := 0) (j := 10) _ _ (by omega), est55, up2_ne (r := 15) (k := 2) (a := 0) (j := 10) _ _ (by omega), est53, up2_ne (r := 15) (k := 1) (a := 0) (j := 10) _ _ (by omega), est52, up2_ne (r := 15) (k := 0) (a := 0) (j := 10) _ _ (by omega), hv32_0])
                subst hm
                exact W.iret (v := (-1)) hx hb hr (fun t ht hW => ⟨⟨(-1), (st66, sl67), rfl, ⟨hG, Or.inl ⟨zz_01 hf3 hf4, hft9⟩⟩, mB.of ht hP⟩, hS.F ht⟩) hS.2.2 dX12_book_172
        · refine lv_aload_n hx hb dX12_book_85 rfl (lv_at hl 2 rfl) ?_
          refine lv_iconst (v := 5) hx hb dX12_book_86 (by decide) ?_
          refine lv_iload_n hx hb dX12_book_87 rfl (lv_at hl 1 rfl) ?_
          refine lv_imul hx hb dX12_book_88 ?_
          refine zz_top (v := nI (5 * k27)) (nI_mul 5 k27) ?_
          refine va_calli (va_runV (As := [.int (nI (5 * k27))]) (rest := []) ⟨hx, hb, hml, hown, hts⟩ (m_goBy l dC dI ar cy _ hN st28 sl29 (5 * k27) (by omega) hG.1 (hv34_2 k27 (by omega))) (cwV 1 hts gX12_book_X12_goBy rfl rfl rfl (by decide +kernel) ⟨Nat.le_of_ble_eq_true rfl, Nat.le_of_ble_eq_true rfl⟩) ⟨fun a U g mk q => ⟨q.1, mPre.blind q.2⟩, va_recv hK hP (ci := 11) (q0 := 0) rfl rfl, fun U hU hW => ⟨rfl, mPre.of hP hK hU hW⟩⟩ rfl rfl hl.1 rfl (lv_room (Nat.le_of_ble_eq_true rfl)) dX12_book_89 ⟨Nat.le_of_ble_eq_true rfl, Nat.le_of_ble_eq_true rfl⟩) hS (fun q _ h => MA.le hS.1 q h) (MA.le hS.1) (fun r68 x t H locs ht hvm hw hB9 _ _ hS => ?_)
          have hP := mB.at ht hB9
          clear hB9 ht hvm
          obtain ⟨st69, sl70⟩ := x
          obtain ⟨hG2, hLxst69, hw⟩ := hw
          dsimp only at hG2 hw
          have hP : va_P (dC, dI) vwCl (mw ar cy st69 sl70) _ := hP
          have hG : MG [2, 6, 7, 8, 9, 10, 11, 12, 15, 20, 21, 22] st st69 := hG.tr hG2 (by decide)
          have hMst69 : MG [1, 2, 3, 4, 5, 6, 7, 8, 9, 10, 11, 12, 13, 14, 15, 16, 17, 19, 20, 21, 22, 23] st28 st69 := hG2
          clear hG2
          clear hw
          refine lv_istore_n (lv' := [(3, .int r68), (2, .int (nI k27)), (0, .ref (ar 0)), (1, .int va)]) hx hb dX12_book_92 rfl hl (by decide) rfl (fun ls hl => ?_)
          refine lv_iload_n hx hb dX12_book_93 rfl (lv_at hl 0 rfl) ?_
          refine lv_if_ne (tgt := 73) hx hb dX12_book_94 (by decide) (fun c15 => ?_) (fun c15 => ?_)
          · exact ih35 (2 * (41 - k27) + (if (r68 : Int32) = 0 then 1 else 0)) _ _ _ _ (by rw [hm34, if_pos (by assumption : z26 = 0)]; first | (rw [if_neg (by assumption)]; omega) | (split <;> omega)) ⟨r68, k27, st69, sl70, rfl, by omega, by omega, by show st69 0 10 = 0; rw [hMst69.2 0 10 (by decide), hv32_0], by show st69 0 40 = _; rw [hMst69.2 0 40 (by decide), hv33_1], (LI.mg hMst69 (by decide) hv34_2), hP, hG, hS, lv_sub hl [0, 1, 2, 3] rfl, rfl⟩
          · refine lv_iinc (v := (nI (k27 + 1))) (lv' := [(2, .int (nI (k27 + 1))), (3, .int r68), (0, .ref (ar 0)), (1, .int va)]) hx hb dX12_book_97 hl (k := 1) rfl (nI_add k27 1) (by decide) rfl (fun ls hl => ?_)
            refine lv_goto (tgt := 73) hx hb dX12_book_100 (by decide) ?_
            exact ih35 (2 * (41 - (k27 + 1)) + (if (r68 : Int32) = 0 then 1 else 0)) _ _ _ _ (by rw [hm34, if_pos (by assumption : z26 = 0)]; first | (rw [if_neg (by assumption)]; omega) | (split <;> omega)) ⟨r68, (k27 + 1), st69, sl70, rfl, by omega, by omega, by show st69 0 10 = 0; rw [hMst69.2 0 10 (by decide), hv32_0], by show st69 0 40 = _; rw [hMst69.2 0 40 (by decide), hv33_1], (LI.mg hMst69 (by decide) hv34_2), hP, hG, hS, lv_sub hl [1, 0, 2, 3] rfl, rfl⟩
    · have c2 : ¬ (tkd B g m p7) = 0 := fun hh => c2 ((nI_eq (a := (tkd B g m p7)) (b := 0) (by omega) (by omega)).mpr hh)
      refine lv_aload_n hx hb dX12_book_37 rfl (lv_at hl 0 rfl) ?_
      refine va_calli (va_runV (As := []) (rest := []) ⟨hx, hb, hml, hown, hts⟩ (f_readBookLineJ l dC dI ar cy _ hN st14 sl15 B g m p7 c nm n16 hG.1 (MBt.fr hB hF) hT hR (by rw [en16]) (by omega) (hli)) (cwV 0 hts gX12_book_X12_readBookLine rfl rfl rfl (by decide +kernel) ⟨Nat.le_of_ble_eq_true rfl, Nat.le_of_ble_eq_true rfl⟩) ⟨fun a U g mk q => ⟨q.1, mPre.blind q.2⟩, va_recv hK hP (ci := 11) (q0 := 0) rfl rfl, fun U hU hW => ⟨rfl, mPre.of hP hK hU hW⟩⟩ rfl rfl hl.1 rfl (lv_room (Nat.le_of_ble_eq_true rfl)) dX12_book_38 ⟨Nat.le_of_ble_eq_true rfl, Nat.le_of_ble_eq_true rfl⟩) hS (fun q _ h => MA.le hS.1 q h) (MA.le hS.1) (fun r71 x t H locs ht hvm hw hB9 _ _ hS => ?_)
      have hP := mB.at ht hB9
      clear hB9 ht hvm
      obtain ⟨st72, sl73⟩ := x
      obtain ⟨hG2, hF2, hw⟩ := hw
      dsimp only at hG2 hF2 hw
      have hP : va_P (dC, dI) vwCl (mw ar cy st72 sl73) _ := hP
      have hG : MG [2, 6, 7, 8, 9, 10, 11, 12, 15, 20, 21, 22] st st72 := hG.tr hG2 (by decide)
      have hFst72 : FM 7 st14 sl15 st72 sl73 := hF2
      have hF : FM 7 st7 sl8 st72 sl73 := hF.tr hFst72 (by omega) (by omega)
      have hMst72 : MG [1, 2, 3, 6, 7, 8, 9, 10, 11, 12, 14, 15, 20, 21, 22] st14 st72 := hG2
      clear hG2 hF2
      have hR : RN c nm st72 sl73 := hR.fr hFst72
      rcases hw with ⟨n74, rfl, hT, hf75, hf76, hf77, hf78⟩ | ⟨n79, n80, rfl, hf81, hf82, hf83, hf84⟩
      · have hp9 := hT.2.2.2.2.2.2
        have hk1 := tkd_lt (B := B) (g := g) (m := m) (p := n74)
        have hk2 := tkx_le (B := B) (g := g) (m := m) (p := n74) hp9
        have hk3 := tka_le (B := B) (g := g) (m := m) (p := n74) hp9 hB.2.2.1
        have hk4 := tkv_lt (p := n74) hB hp9
        have hk5 := tkw_lt (B := B) (g := g) (m := m) (p := n74)
        refine lv_if_ne (tgt := 52) hx hb dX12_book_41 (by decide) (fun _ => ?_) (fun cc => absurd cc (by decide))
        refine lv_aload_n hx hb dX12_book_52 rfl (lv_at hl 0 rfl) ?_
        refine lv_dup hx hb dX12_book_53 rfl ?_
        refine va_get (D := (dC, dI)) (ci := 11) (v := .int (st72 0 40)) (C := RX12) (T := TX12) (N := 47) hx hb hts ii_X12_book hown hK hP 0 rfl rfl 40 (by decide) (hts _ mm_X12_book_2) (fun _ hh => hh) rfl dX12_book_54 ?_
        refine zz_top (v := (nI n16)) (by show st72 0 40 = _; rw [hMst72.2 0 40 (by decide), en16]) ?_
        refine lv_iconst (v := 1) hx hb dX12_book_57 (by decide) ?_
        refine lv_iadd hx hb dX12_book_58 ?_
        refine zz_top (v := nI (n16 + 1)) (nI_add n16 1) ?_
        refine va_put (D := (dC, dI)) (ci := 11) (v := .int (nI (n16 + 1))) (ty := .int) (C := RX12) (T := TX12) (N := 47) hx hb hts ii_X12_book tyX12 tyX12_ok nmX12 hown hK hP (mD hN _ _ _ _) hS 0 rfl rfl 40 (by decide) (hts _ mm_X12_book_2) (fun _ hh => hh) rfl (by decide +kernel) rfl rfl (Nat.le_of_ble_eq_true rfl) dX12_book_59 (fun H locs hP _ hS => ?_)
        have hP : va_P (dC, dI) vwCl (mw ar cy (up2 st72 0 40 (nI (n16 + 1))) sl73) H := hP
        obtain ⟨st85, est85⟩ : ∃ y, y = up2 st72 0 40 (nI (n16 + 1)) := ⟨_, rfl⟩
        have hG : MG [2, 6, 7, 8, 9, 10, 11, 12, 15, 20, 21, 22] st st85 := by rw [est85]; exact hG.up (rn (n := (n16 + 1)) (by decide : mr 0 40 = 41) (by omega)) (pn (by decide : pcl 0 40 = 14) (by decide))
        rw [← est85] at hP
        have hF : FM 7 st7 sl8 st85 sl73 := by rw [est85]; exact hF.up (by decide)
        have hT : TM B g m n74 st85 sl73 := by rw [est85]; exact hT.up (by omega)
        have hR : RN c nm st85 sl73 := by rw [est85]; exact hR.up (by omega)
        refine lv_goto (tgt := 30) hx hb dX12_book_62 (by decide) ?_
        exact ih22 (41 - (n16 + 1)) _ _ _ _ (by omega) ⟨st85, sl73, (n16 + 1), rfl, by rw [est85, up2_same], by omega, ⟨n74, hT, hR, hbk.trans (by rw [show 41 - n16 = (40 - n16) + 1 by omega, show 41 - (n16 + 1) = 40 - n16 by omega]; exact bBk_y (by omega) hf75)⟩, by rw [est85]; exact LI.to hf77 (by omega) (fun j hj => up2_ne (r := 0) (k := 40) (a := 14) (j := j) _ _ (by omega)), hF, by show st85 0 10 = st7 0 10; rw [est85, up2_ne (r := 0) (k := 40) (a := 0) (j := 10) _ _ (by omega), hf76, hK10], hP, hG, hS, lv_sub hl [0, 1] rfl, rfl⟩
      · refine lv_if_ne (tgt := 52) hx hb dX12_book_41 (by decide) (fun cc => absurd (by decide) cc) (fun _ => ?_)
        refine lv_bipush (v := (-2)) hx hb dX12_book_44 (by decide) ?_
        refine lv_aload_n hx hb dX12_book_46 rfl (lv_at hl 0 rfl) ?_
        refine va_get (D := (dC, dI)) (ci := 11) (v := .int (st72 0 11)) (C := RX12) (T := TX12) (N := 47) hx hb hts ii_X12_book hown hK hP 0 rfl rfl 11 (by decide) (hts _ mm_X12_book_4) (fun _ hh => hh) rfl dX12_book_47 ?_
        refine zz_top (v := (nI n80)) (by show st72 0 11 = _; rw [hf82]) ?_
        refine lv_isub hx hb dX12_book_50 ?_
        refine lv_topi (fun z86 ez86 => ?_)
        have hres : bBk B g m c nm 41 0 0 = sf n79 n80 := hbk.trans (by rw [show 41 - n16 = (40 - n16) + 1 by omega]; exact bBk_f (by omega) hf84 hf83)
        have hft9 : st72 0 10 = nI (bBk B g m c nm 41 0 0).1 := by rw [hres]; exact (show st72 0 10 = (nI n79) by rw [hf81])
        subst hm
        exact W.iret (v := z86) hx hb hr (fun t ht hW => ⟨⟨z86, (st72, sl73), rfl, ⟨hG, Or.inl ⟨zz_01 hf3 hf4, hft9⟩⟩, mB.of ht hP⟩, hS.F ht⟩) hS.2.2 dX12_book_51
  · refine lv_if_ne (tgt := 18) hx hb dX12_book_11 (by decide) (fun cc => absurd (by decide) cc) (fun _ => ?_)
    refine lv_sipush (v := (-1000)) hx hb dX12_book_14 (by decide) ?_
    exact W.iret (v := (-1000)) hx hb hr (fun t ht hW => ⟨⟨(-1000), (st1, sl), rfl, ⟨hG, Or.inr ⟨fun z9 => z9.elim (fun e => hf5 (by rw [e]; decide)) (fun e => hf5 (by rw [e]; decide)), by show st1 0 10 = st 0 10; rw [est1, up2_ne (r := 0) (k := 0) (a := 0) (j := 10) _ _ (by omega)]⟩⟩, mB.of ht hP⟩, hS.F ht⟩) hS.2.2 dX12_book_17
