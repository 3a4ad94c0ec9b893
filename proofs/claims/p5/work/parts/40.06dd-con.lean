set_option maxHeartbeats 4000000 in
set_option maxRecDepth 100000 in
theorem m_book (l : Launch) (dC : Nat → ClassId) (dI : Nat → Nat → Nat) (ar : Nat → Nat) (cy : Nat → ClassId) (sz : Nat) (hN : MN ar) (st : Nat → Nat → Int32) (sl : Nat → Nat → Int64) (va : Int32) (hI : MI st) : Met l yX12_book wsX12_book ({ frames := 8, cells := 0, slots := 0, locals := 182 }) (va_Pc [.ref (ar 0), .int va] (mPre dC dI ar cy sz st sl)) (va_Qi (fun (r : Int32) (x : MT) => MG [2, 6, 7, 8, 9, 10, 11, 12, 15, 19, 20, 21, 22] st x.1 ∧ LQ [7, 9] sl x.2 ∧ ((x.1 0 2 = 0 ∧ (va = 0 ∨ va = 1)) ∨ (x.1 0 2 = st 0 2 ∧ ¬ (va = 0 ∨ va = 1)))) (mB dC dI ar cy) (MA ar sz)) 0 0 (MA ar sz) := by
  refine Met.ofW (cc := cX12_book) (maxL := 4) (ret := (some .int)) (by decide) rfl ?_
  intro p e s m args below meth c s₁ B hml hv
  obtain ⟨rfl, hsz, hP, hK⟩ := hv
  have hx := B.exec
  have hb := B.bytes
  have hr := B.returns
  have hts := atoms_spec (ws := wsX12_book) B.pre
  have hown : s.vm.findClass RX12 = some m.cls := findClass_of_methodNamed B.named
  subst hsz
  have hS : va_S (MA ar s.heap.size) s.heap s.heap [] := va_S.rf
  have hG : MG [2, 6, 7, 8, 9, 10, 11, 12, 15, 19, 20, 21, 22] st st := MG.rf hI
  have hl := lv_entry ([.ref (ar 0), .int va]) (n := 4) (Nat.le_of_ble_eq_true rfl)
  rw [lg_entry_eq]
  generalize (lg_sl ([.ref (ar 0), .int va]) ++ List.replicate (4 - (lg_sl ([.ref (ar 0), .int va])).length) Slot.unset).toArray = ls at hl ⊢
  have hl : lv_has ls 4 [(0, .ref (ar 0)), (1, .int va)] := hl
  clear hI
  have hL : LQ [7, 9] sl sl := LQ.rf
  refine lv_aload_n hx hb dX12_book_0 rfl (lv_at hl 0 rfl) ?_
  refine lv_iconst (v := 0) hx hb dX12_book_1 (by decide) ?_
  refine va_put (D := (dC, dI)) (ci := 11) (v := .int 0) (ty := .int) (C := RX12) (T := TX12) (N := 47) hx hb hts ii_X12_book tyX12 tyX12_ok nmX12 hown hK hP (mD hN _ _ _ _) hS 0 rfl rfl 0 (by decide) (hts _ mm_X12_book_1) (fun _ hh => hh) rfl (by decide +kernel) rfl rfl (Nat.le_of_ble_eq_true rfl) dX12_book_2 (fun H locs hP _ hS => ?_)
  have hP : va_P (dC, dI) vwCl (mw ar cy (up2 st 0 0 0) sl) H := hP
  obtain ⟨st1, est1⟩ : ∃ y, y = up2 st 0 0 0 := ⟨_, rfl⟩
  have hG : MG [2, 6, 7, 8, 9, 10, 11, 12, 15, 19, 20, 21, 22] st st1 := by rw [est1]; exact hG.up (rz (by decide : mr 0 0 = 0)) (pn (by decide : pcl 0 0 = 0) (by decide))
  rw [← est1] at hP
  refine lv_iload_n hx hb dX12_book_5 rfl (lv_at hl 1 rfl) ?_
  refine lv_iconst (v := 0) hx hb dX12_book_6 (by decide) ?_
  refine lv_iconst (v := 1) hx hb dX12_book_7 (by decide) ?_
  refine va_calli (va_runS (As := [.int va, .int 0, .int 1]) (rest := []) ⟨hx, hb, hml, hown, hts⟩ (m_isInX l dC dI ar cy _ hN st1 sl va 0 1  hG.1) (va_cwS 3 hts gX12_book_X12_isIn rfl rfl rfl (by decide +kernel) ⟨Nat.le_of_ble_eq_true rfl, Nat.le_of_ble_eq_true rfl⟩) ⟨fun a U g mk q => ⟨q.1, mPre.blind q.2⟩, fun U hU hW => ⟨rfl, mPre.of hP hK hU hW⟩⟩ rfl rfl hl.1 rfl (lv_room (Nat.le_of_ble_eq_true rfl)) dX12_book_8 ⟨Nat.le_of_ble_eq_true rfl, Nat.le_of_ble_eq_true rfl⟩) hS (fun q _ h => MA.le hS.1 q h) (MA.le hS.1) (fun r2 x t H locs ht hvm hw hB _ _ hS => ?_)
  have hP := mB.at ht hB
  clear hB ht hvm
  obtain ⟨rfl, hw⟩ := hw
  have hP : va_P (dC, dI) vwCl (mw ar cy st1 sl) _ := hP
  rcases hw with ⟨rfl, hf3, hf4⟩ | ⟨rfl, hf5⟩
  · obtain ⟨n6, hn6a, hn6b, rfl⟩ := zz_rng (a := 0) (b := 1) (by omega) hf3 (by omega) hf4
    refine lv_if_ne (tgt := 18) hx hb dX12_book_11 (by decide) (fun _ => ?_) (fun cc => absurd cc (by decide))
    refine lv_aload_n hx hb dX12_book_18 rfl (lv_at hl 0 rfl) ?_
    refine lv_sipush (v := 400) hx hb dX12_book_19 (by decide) ?_
    refine va_callv (va_runV (As := [.int 400]) (rest := []) ⟨hx, hb, hml, hown, hts⟩ (m_begin l dC dI ar cy _ hN st1 sl 400  hG.1) (cwV 1 hts gX12_book_X12_begin rfl rfl rfl (by decide +kernel) ⟨Nat.le_of_ble_eq_true rfl, Nat.le_of_ble_eq_true rfl⟩) ⟨fun a U g mk q => ⟨q.1, mPre.blind q.2⟩, va_recv hK hP (ci := 11) (q0 := 0) rfl rfl, fun U hU hW => ⟨rfl, mPre.of hP hK hU hW⟩⟩ rfl rfl hl.1 rfl (lv_room (Nat.le_of_ble_eq_true rfl)) dX12_book_22 ⟨Nat.le_of_ble_eq_true rfl, Nat.le_of_ble_eq_true rfl⟩) hS (fun q _ h => MA.le hS.1 q h) (MA.le hS.1) (fun x t H locs ht hvm hw hB _ _ hS => ?_)
    have hP := mB.at ht hB
    clear hB ht hvm
    obtain ⟨st8, sl9⟩ := x
    obtain ⟨hG2, hL2, hw⟩ := hw
    have hL : LQ [7, 9] sl sl9 := hL.tr hL2 (by decide)
    clear hL2
    dsimp only at hw
    have hP : va_P (dC, dI) vwCl (mw ar cy st8 sl9) _ := hP
    have hG : MG [2, 6, 7, 8, 9, 10, 11, 12, 15, 19, 20, 21, 22] st st8 := hG.tr hG2 (by decide)
    have hGst8 : MG [2, 6, 7, 8, 9, 10, 11, 12, 13, 14, 15, 16, 19, 20, 21, 22] st1 st8 := hG2
    clear hG2
    obtain ⟨n10, n11, hf12, hf13⟩ := hw
    have hf12c := hf12.2.2.1
    have hf12d := hf12.2.2.2
    refine lv_aload_n hx hb dX12_book_25 rfl (lv_at hl 0 rfl) ?_
    refine lv_iconst (v := 0) hx hb dX12_book_26 (by decide) ?_
    refine va_put (D := (dC, dI)) (ci := 11) (v := .int 0) (ty := .int) (C := RX12) (T := TX12) (N := 47) hx hb hts ii_X12_book tyX12 tyX12_ok nmX12 hown hK hP (mD hN _ _ _ _) hS 0 rfl rfl 40 (by decide) (hts _ mm_X12_book_2) (fun _ hh => hh) rfl (by decide +kernel) rfl rfl (Nat.le_of_ble_eq_true rfl) dX12_book_27 (fun H locs hP _ hS => ?_)
    have hP : va_P (dC, dI) vwCl (mw ar cy (up2 st8 0 40 0) sl9) H := hP
    obtain ⟨st14, est14⟩ : ∃ y, y = up2 st8 0 40 0 := ⟨_, rfl⟩
    have hG : MG [2, 6, 7, 8, 9, 10, 11, 12, 15, 19, 20, 21, 22] st st14 := by rw [est14]; exact hG.up (r0) (pn (by decide : pcl 0 40 = 14) (by decide))
    rw [← est14] at hP
    refine zz_wf (fun n stk H locs ls => ∃ st15 : Nat → Nat → Int32, ∃ sl16 : Nat → Nat → Int64, ∃ g18 : Nat, n = n11 - g18 ∧ TS st15 g18 n11 ∧ 0 ≤ g18 ∧ ((∃ q, q < 41 ∧ st15 0 40 = nI q ∧ LI st15 q)) ∧ va_P (dC, dI) vwCl (mw ar cy st15 sl16) H ∧ MG [2, 6, 7, 8, 9, 10, 11, 12, 15, 19, 20, 21, 22] st st15 ∧ MG [1] st14 st15 ∧ LQ [7, 9] sl sl16 ∧ va_S (MA ar s.heap.size) s.heap H locs ∧ lv_has ls 4 [(0, .ref (ar 0)), (1, .int (nI n6))] ∧ stk = []) ?_ (n11 - n10) _ _ _ _ ⟨st14, sl9, n10, rfl, ⟨by rw [est14, up2_ne (r := 0) (k := 40) (a := 0) (j := 5) _ _ (by omega), hf12.1], by rw [est14, up2_ne (r := 0) (k := 40) (a := 0) (j := 3) _ _ (by omega), hf12.2.1], by omega, by omega⟩, by omega, ⟨0, by omega, by rw [est14, up2_same]; rfl, LI.zero _⟩, hP, hG, MG.rf hG.1, hL, hS, lv_sub hl [0, 1] rfl, rfl⟩
    rintro nn stk H locs ls ⟨st15, sl16, g18, hm19, hTg18, hTg18g, hv19_0, hP, hG, hG17, hL, hS, hl, rfl⟩ ih20
    have hTg18c := hTg18.2.2.1
    have hTg18d := hTg18.2.2.2
    obtain ⟨q0, hq0, eq0, hq1⟩ := hv19_0
    refine lv_aload_n hx hb dX12_book_30 rfl (lv_at hl 0 rfl) ?_
    refine va_get (D := (dC, dI)) (ci := 11) (v := .int (st15 0 7)) (C := RX12) (T := TX12) (N := 47) hx hb hts ii_X12_book hown hK hP 0 rfl rfl 7 (by decide) (hts _ mm_X12_book_3) (fun _ hh => hh) rfl dX12_book_31 ?_
    refine lv_topi (fun z21 ez21 => ?_)
    refine lv_if_eq (tgt := 65) hx hb dX12_book_34 (by decide) (fun c2 => ?_) (fun c2 => ?_)
    · refine lv_aload_n hx hb dX12_book_65 rfl (lv_at hl 0 rfl) ?_
      refine va_callv (va_runV (As := []) (rest := []) ⟨hx, hb, hml, hown, hts⟩ (m_layAside l dC dI ar cy _ hN st15 sl16  hG.1) (cwV 0 hts gX12_book_X12_layAside rfl rfl rfl (by decide +kernel) ⟨Nat.le_of_ble_eq_true rfl, Nat.le_of_ble_eq_true rfl⟩) ⟨fun a U g mk q => ⟨q.1, mPre.blind q.2⟩, va_recv hK hP (ci := 11) (q0 := 0) rfl rfl, fun U hU hW => ⟨rfl, mPre.of hP hK hU hW⟩⟩ rfl rfl hl.1 rfl (lv_room (Nat.le_of_ble_eq_true rfl)) dX12_book_66 ⟨Nat.le_of_ble_eq_true rfl, Nat.le_of_ble_eq_true rfl⟩) hS (fun q _ h => MA.le hS.1 q h) (MA.le hS.1) (fun x t H locs ht hvm hw hB _ _ hS => ?_)
      have hP := mB.at ht hB
      clear hB ht hvm
      obtain ⟨st23, sl24⟩ := x
      obtain ⟨hG2, hL2, hw⟩ := hw
      have hL : LQ [7, 9] sl sl24 := hL.tr hL2 (by decide)
      clear hL2
      have hP : va_P (dC, dI) vwCl (mw ar cy st23 sl24) _ := hP
      have hG : MG [2, 6, 7, 8, 9, 10, 11, 12, 15, 19, 20, 21, 22] st st23 := hG.tr hG2 (by decide)
      have hG25 : MG [1] st14 st23 := hG17.tr hG2 (by decide)
      have hGst23 : MG [1, 2, 3, 4, 5, 6, 7, 8, 9, 10, 11, 12, 13, 14, 15, 16, 17, 19, 20, 21, 22, 23] st15 st23 := hG2
      clear hG2
      clear hw
      refine lv_iconst (v := 0) hx hb dX12_book_69 (by decide) ?_
      refine lv_istore_n (lv' := [(2, .int 0), (0, .ref (ar 0)), (1, .int (nI n6))]) hx hb dX12_book_70 rfl hl (by decide) rfl (fun ls hl => ?_)
      refine lv_iconst (v := 0) hx hb dX12_book_71 (by decide) ?_
      refine lv_istore_n (lv' := [(3, .int 0), (2, .int 0), (0, .ref (ar 0)), (1, .int (nI n6))]) hx hb dX12_book_72 rfl hl (by decide) rfl (fun ls hl => ?_)
      refine zz_wf (fun n stk H locs ls => ∃ z26 : Int32, ∃ k27 : Nat, ∃ st28 : Nat → Nat → Int32, ∃ sl29 : Nat → Nat → Int64, n = 2 * (41 - k27) + (if (z26 : Int32) = 0 then 1 else 0) ∧ 0 ≤ k27 ∧ k27 < 41 ∧ va_P (dC, dI) vwCl (mw ar cy st28 sl29) H ∧ MG [2, 6, 7, 8, 9, 10, 11, 12, 15, 19, 20, 21, 22] st st28 ∧ MG [1] st14 st28 ∧ MG [1, 13, 14] st23 st28 ∧ LQ [7, 9] sl sl29 ∧ va_S (MA ar s.heap.size) s.heap H locs ∧ lv_has ls 4 [(3, .int z26), (2, .int (nI k27)), (0, .ref (ar 0)), (1, .int (nI n6))] ∧ stk = []) ?_ (2 * (41 - 0) + (if (0 : Int32) = 0 then 1 else 0)) _ _ _ _ ⟨0, 0, st23, sl24, rfl, by omega, by omega, hP, hG, hG25, MG.rf hG.1, hL, hS, lv_sub hl [0, 1, 2, 3] rfl, rfl⟩
      rintro nn stk H locs ls ⟨z26, k27, st28, sl29, hm33, hv32_0, hv33_1, hP, hG, hG30, hG31, hL, hS, hl, rfl⟩ ih34
      refine lv_iload_n hx hb dX12_book_73 rfl (lv_at hl 1 rfl) ?_
      refine lv_aload_n hx hb dX12_book_74 rfl (lv_at hl 2 rfl) ?_
      refine va_get (D := (dC, dI)) (ci := 11) (v := .int (st28 0 40)) (C := RX12) (T := TX12) (N := 47) hx hb hts ii_X12_book hown hK hP 0 rfl rfl 40 (by decide) (hts _ mm_X12_book_2) (fun _ hh => hh) rfl dX12_book_75 ?_
      refine zz_top (v := (nI q0)) (by show st28 0 40 = _; rw [hG31.2 0 40 (by decide), hGst23.2 0 40 (by decide), eq0]) ?_
      refine lv_icmp_ge (tgt := 103) hx hb dX12_book_78 (by decide) (fun c3 => ?_) (fun c3 => ?_)
      · have c3 : q0 ≤ k27 := (nI_leI (a := q0) (b := k27) (by omega) (by omega)).mp c3
        refine lv_aload_n hx hb dX12_book_103 rfl (lv_at hl 2 rfl) ?_
        refine va_get (D := (dC, dI)) (ci := 11) (v := .ref (ar 15)) (C := RX12) (T := TX12) (N := 47) hx hb hts ii_X12_book hown hK hP 0 rfl rfl 39 (by decide) (hts _ mm_X12_book_5) (fun _ hh => hh) rfl dX12_book_104 ?_
        refine lv_iconst (v := 0) hx hb dX12_book_107 (by decide) ?_
        refine lv_iload_n hx hb dX12_book_108 rfl (lv_at hl 0 rfl) ?_
        refine va_iast hx hb hK hP (mD hN _ _ _ _) hS 15 14 rfl rfl (i := 0) (zz_in (by decide)) dX12_book_109 (fun H locs hP _ hS => ?_)
        have hP : va_P (dC, dI) vwCl (mw ar cy (up2 st28 15 0 z26) sl29) H := hP
        obtain ⟨st35, est35⟩ : ∃ y, y = up2 st28 15 0 z26 := ⟨_, rfl⟩
        have hG : MG [2, 6, 7, 8, 9, 10, 11, 12, 15, 19, 20, 21, 22] st st35 := by rw [est35]; exact hG.up (rz (by decide : mr 15 0 = 0)) (pn (by decide : pcl 15 0 = 0) (by decide))
        have hG36 : MG [1] st14 st35 := by rw [est35]; exact hG30.up (rz (by decide : mr 15 0 = 0)) (pn (by decide : pcl 15 0 = 0) (by decide))
        have hG37 : MG [1, 13, 14] st23 st35 := by rw [est35]; exact hG31.up (rz (by decide : mr 15 0 = 0)) (pn (by decide : pcl 15 0 = 0) (by decide))
        rw [← est35] at hP
        refine lv_aload_n hx hb dX12_book_110 rfl (lv_at hl 2 rfl) ?_
        refine va_get (D := (dC, dI)) (ci := 11) (v := .ref (ar 15)) (C := RX12) (T := TX12) (N := 47) hx hb hts ii_X12_book hown hK hP 0 rfl rfl 39 (by decide) (hts _ mm_X12_book_5) (fun _ hh => hh) rfl dX12_book_111 ?_
        refine lv_iconst (v := 1) hx hb dX12_book_114 (by decide) ?_
        refine lv_iload_n hx hb dX12_book_115 rfl (lv_at hl 1 rfl) ?_
        refine va_iast hx hb hK hP (mD hN _ _ _ _) hS 15 14 rfl rfl (i := 1) (zz_in (by decide)) dX12_book_116 (fun H locs hP _ hS => ?_)
        have hP : va_P (dC, dI) vwCl (mw ar cy (up2 st35 15 1 (nI k27)) sl29) H := hP
        obtain ⟨st38, est38⟩ : ∃ y, y = up2 st35 15 1 (nI k27) := ⟨_, rfl⟩
        have hG : MG [2, 6, 7, 8, 9, 10, 11, 12, 15, 19, 20, 21, 22] st st38 := by rw [est38]; exact hG.up (rz (by decide : mr 15 1 = 0)) (pn (by decide : pcl 15 1 = 0) (by decide))
        have hG39 : MG [1] st14 st38 := by rw [est38]; exact hG36.up (rz (by decide : mr 15 1 = 0)) (pn (by decide : pcl 15 1 = 0) (by decide))
        have hG40 : MG [1, 13, 14] st23 st38 := by rw [est38]; exact hG37.up (rz (by decide : mr 15 1 = 0)) (pn (by decide : pcl 15 1 = 0) (by decide))
        rw [← est38] at hP
        refine lv_aload_n hx hb dX12_book_117 rfl (lv_at hl 2 rfl) ?_
        refine va_get (D := (dC, dI)) (ci := 11) (v := .ref (ar 15)) (C := RX12) (T := TX12) (N := 47) hx hb hts ii_X12_book hown hK hP 0 rfl rfl 39 (by decide) (hts _ mm_X12_book_5) (fun _ hh => hh) rfl dX12_book_118 ?_
        refine lv_iconst (v := 2) hx hb dX12_book_121 (by decide) ?_
        refine lv_aload_n hx hb dX12_book_122 rfl (lv_at hl 2 rfl) ?_
        refine va_get (D := (dC, dI)) (ci := 11) (v := .ref (ar 2)) (C := RX12) (T := TX12) (N := 47) hx hb hts ii_X12_book hown hK hP 0 rfl rfl 14 (by decide) (hts _ mm_X12_book_6) (fun _ hh => hh) rfl dX12_book_123 ?_
        refine lv_bipush (v := 61) hx hb dX12_book_126 (by decide) ?_
        refine va_iald hx hb hK hP 2 1 rfl rfl (i := 61) (zz_in (by decide)) dX12_book_128 ?_
        refine lv_topi (fun z41 ez41 => ?_)
        refine va_iast hx hb hK hP (mD hN _ _ _ _) hS 15 14 rfl rfl (i := 2) (zz_in (by decide)) dX12_book_129 (fun H locs hP _ hS => ?_)
        have hP : va_P (dC, dI) vwCl (mw ar cy (up2 st38 15 2 z41) sl29) H := hP
        obtain ⟨st42, est42⟩ : ∃ y, y = up2 st38 15 2 z41 := ⟨_, rfl⟩
        have hG : MG [2, 6, 7, 8, 9, 10, 11, 12, 15, 19, 20, 21, 22] st st42 := by rw [est42]; exact hG.up (rz (by decide : mr 15 2 = 0)) (pn (by decide : pcl 15 2 = 0) (by decide))
        have hG43 : MG [1] st14 st42 := by rw [est42]; exact hG39.up (rz (by decide : mr 15 2 = 0)) (pn (by decide : pcl 15 2 = 0) (by decide))
        have hG44 : MG [1, 13, 14] st23 st42 := by rw [est42]; exact hG40.up (rz (by decide : mr 15 2 = 0)) (pn (by decide : pcl 15 2 = 0) (by decide))
        rw [← est42] at hP
        refine lv_aload_n hx hb dX12_book_130 rfl (lv_at hl 2 rfl) ?_
        refine va_get (D := (dC, dI)) (ci := 11) (v := .ref (ar 15)) (C := RX12) (T := TX12) (N := 47) hx hb hts ii_X12_book hown hK hP 0 rfl rfl 39 (by decide) (hts _ mm_X12_book_5) (fun _ hh => hh) rfl dX12_book_131 ?_
        refine lv_iconst (v := 3) hx hb dX12_book_134 (by decide) ?_
        refine lv_aload_n hx hb dX12_book_135 rfl (lv_at hl 2 rfl) ?_
        refine va_calli (va_runV (As := []) (rest := [.int 3, .ref (ar 15)]) ⟨hx, hb, hml, hown, hts⟩ (m_awaySet l dC dI ar cy _ hN st42 sl29  hG.1) (cwV 0 hts gX12_book_X12_awaySet rfl rfl rfl (by decide +kernel) ⟨Nat.le_of_ble_eq_true rfl, Nat.le_of_ble_eq_true rfl⟩) ⟨fun a U g mk q => ⟨q.1, mPre.blind q.2⟩, va_recv hK hP (ci := 11) (q0 := 0) rfl rfl, fun U hU hW => ⟨rfl, mPre.of hP hK hU hW⟩⟩ rfl rfl hl.1 rfl (lv_room (Nat.le_of_ble_eq_true rfl)) dX12_book_136 ⟨Nat.le_of_ble_eq_true rfl, Nat.le_of_ble_eq_true rfl⟩) hS (fun q _ h => MA.le hS.1 q h) (MA.le hS.1) (fun r45 x t H locs ht hvm hw hB _ _ hS => ?_)
        have hP := mB.at ht hB
        clear hB ht hvm
        obtain ⟨rfl, hw⟩ := hw
        have hP : va_P (dC, dI) vwCl (mw ar cy st42 sl29) _ := hP
        clear hw
        refine va_iast hx hb hK hP (mD hN _ _ _ _) hS 15 14 rfl rfl (i := 3) (zz_in (by decide)) dX12_book_139 (fun H locs hP _ hS => ?_)
        have hP : va_P (dC, dI) vwCl (mw ar cy (up2 st42 15 3 r45) sl29) H := hP
        obtain ⟨st46, est46⟩ : ∃ y, y = up2 st42 15 3 r45 := ⟨_, rfl⟩
        have hG : MG [2, 6, 7, 8, 9, 10, 11, 12, 15, 19, 20, 21, 22] st st46 := by rw [est46]; exact hG.up (rz (by decide : mr 15 3 = 0)) (pn (by decide : pcl 15 3 = 0) (by decide))
        have hG47 : MG [1] st14 st46 := by rw [est46]; exact hG43.up (rz (by decide : mr 15 3 = 0)) (pn (by decide : pcl 15 3 = 0) (by decide))
        have hG48 : MG [1, 13, 14] st23 st46 := by rw [est46]; exact hG44.up (rz (by decide : mr 15 3 = 0)) (pn (by decide : pcl 15 3 = 0) (by decide))
        rw [← est46] at hP
        refine lv_aload_n hx hb dX12_book_140 rfl (lv_at hl 2 rfl) ?_
        refine lv_iconst (v := 1) hx hb dX12_book_141 (by decide) ?_
        refine va_put (D := (dC, dI)) (ci := 11) (v := .int 1) (ty := .boolean) (C := RX12) (T := TX12) (N := 47) hx hb hts ii_X12_book tyX12 tyX12_ok nmX12 hown hK hP (mD hN _ _ _ _) hS 0 rfl rfl 41 (by decide) (hts _ mm_X12_book_7) (fun _ hh => hh) rfl (by decide +kernel) rfl rfl (Nat.le_of_ble_eq_true rfl) dX12_book_142 (fun H locs hP _ hS => ?_)
        have hP : va_P (dC, dI) vwCl (mw ar cy (up2 st46 0 41 1) sl29) H := hP
        obtain ⟨st49, est49⟩ : ∃ y, y = up2 st46 0 41 1 := ⟨_, rfl⟩
        have hG : MG [2, 6, 7, 8, 9, 10, 11, 12, 15, 19, 20, 21, 22] st st49 := by rw [est49]; exact hG.up (rz (by decide : mr 0 41 = 0)) (pn (by decide : pcl 0 41 = 0) (by decide))
        have hG50 : MG [1] st14 st49 := by rw [est49]; exact hG47.up (rz (by decide : mr 0 41 = 0)) (pn (by decide : pcl 0 41 = 0) (by decide))
        have hG51 : MG [1, 13, 14] st23 st49 := by rw [est49]; exact hG48.up (rz (by decide : mr 0 41 = 0)) (pn (by decide : pcl 0 41 = 0) (by decide))
        rw [← est49] at hP
        refine lv_aload_n hx hb dX12_book_145 rfl (lv_at hl 2 rfl) ?_
        refine lv_iload_n hx hb dX12_book_146 rfl (lv_at hl 3 rfl) ?_
        refine lv_iconst (v := 1) hx hb dX12_book_147 (by decide) ?_
        refine lv_icmp_ne (tgt := 159) hx hb dX12_book_148 (by decide) (fun c4 => ?_) (fun c4 => ?_)
        · have c4 : ¬ n6 = 1 := fun hh => c4 ((nI_eq (a := n6) (b := 1) (by omega) (by omega)).mpr hh)
          refine lv_iconst (v := 0) hx hb dX12_book_159 (by decide) ?_
          refine va_callv (va_runV (As := [.int 0]) (rest := []) ⟨hx, hb, hml, hown, hts⟩ (m_stay0 l dC dI ar cy _ hN st49 sl29  hG.1) (cwV 1 hts gX12_book_X12_stay rfl rfl rfl (by decide +kernel) ⟨Nat.le_of_ble_eq_true rfl, Nat.le_of_ble_eq_true rfl⟩) ⟨fun a U g mk q => ⟨q.1, mPre.blind q.2⟩, va_recv hK hP (ci := 11) (q0 := 0) rfl rfl, fun U hU hW => ⟨rfl, mPre.of hP hK hU hW⟩⟩ rfl rfl hl.1 rfl (lv_room (Nat.le_of_ble_eq_true rfl)) dX12_book_160 ⟨Nat.le_of_ble_eq_true rfl, Nat.le_of_ble_eq_true rfl⟩) hS (fun q _ h => MA.le hS.1 q h) (MA.le hS.1) (fun x t H locs ht hvm hw hB _ _ hS => ?_)
          have hP := mB.at ht hB
          clear hB ht hvm
          obtain ⟨st53, sl54⟩ := x
          obtain ⟨hG2, hL2, hw⟩ := hw
          have hL : LQ [7, 9] sl sl54 := hL.tr hL2 (by decide)
          clear hL2
          have hP : va_P (dC, dI) vwCl (mw ar cy st53 sl54) _ := hP
          have hG : MG [2, 6, 7, 8, 9, 10, 11, 12, 15, 19, 20, 21, 22] st st53 := hG.tr hG2 (by decide)
          have hG55 : MG [1] st14 st53 := hG50.tr hG2 (by decide)
          have hG56 : MG [1, 13, 14] st23 st53 := hG51.tr hG2 (by decide)
          have hGst53 : MG [1, 2, 3, 4, 5, 6, 7, 8, 9, 10, 11, 12, 13, 14, 15, 16, 17, 19, 20, 21, 22, 23] st49 st53 := hG2
          clear hG2
          clear hw
          refine lv_iload_n hx hb dX12_book_163 rfl (lv_at hl 0 rfl) ?_
          refine lv_if_ne (tgt := 171) hx hb dX12_book_164 (by decide) (fun c5 => ?_) (fun c5 => ?_)
          · refine lv_iload_n hx hb dX12_book_171 rfl (lv_at hl 1 rfl) ?_
            exact W.iret (v := (nI k27)) hx hb hr (fun t ht hW => ⟨⟨(nI k27), (st53, sl54), rfl, ⟨hG, hL, Or.inl ⟨by show st53 0 2 = 0; rw [hGst53.2 0 2 (by decide), est49, up2_ne (r := 0) (k := 41) (a := 0) (j := 2) _ _ (by omega), est46, up2_ne (r := 15) (k := 3) (a := 0) (j := 2) _ _ (by omega), est42, up2_ne (r := 15) (k := 2) (a := 0) (j := 2) _ _ (by omega), est38, up2_ne (r := 15) (k := 1) (a := 0) (j := 2) _ _ (by omega), est35, up2_ne (r := 15) (k := 0) (a := 0) (j := 2) _ _ (by omega), hG31.2 0 2 (by decide), hGst23.2 0 2 (by decide), hG17.2 0 2 (by decide), est14, up2_ne (r := 0) (k := 40) (a := 0) (j := 2) _ _ (by omega), hf13], by rcases (show n6 = 0 ∨ n6 = 1 by omega) with hh | hh; (rw [hh]; exact Or.inl rfl); (rw [hh]; exact Or.inr rfl)⟩⟩, mB.of ht hP⟩, hS.F ht⟩) hS.2.2 dX12_book_172
          · refine lv_iconst (v := (-1)) hx hb dX12_book_167 (by decide) ?_
            refine lv_goto (tgt := 172) hx hb dX12_book_168 (by decide) ?_
            exact W.iret (v := (-1)) hx hb hr (fun t ht hW => ⟨⟨(-1), (st53, sl54), rfl, ⟨hG, hL, Or.inl ⟨by show st53 0 2 = 0; rw [hGst53.2 0 2 (by decide), est49, up2_ne (r := 0) (k := 41) (a := 0) (j := 2) _ _ (by omega), est46, up2_ne (r := 15) (k := 3) (a := 0) (j := 2) _ _ (by omega), est42, up2_ne (r := 15) (k := 2) (a := 0) (j := 2) _ _ (by omega), est38, up2_ne (r := 15) (k := 1) (a := 0) (j := 2) _ _ (by omega), est35, up2_ne (r := 15) (k := 0) (a := 0) (j := 2) _ _ (by omega), hG31.2 0 2 (by decide), hGst23.2 0 2 (by decide), hG17.2 0 2 (by decide), est14, up2_ne (r := 0) (k := 40) (a := 0) (j := 2) _ _ (by omega), hf13], by rcases (show n6 = 0 ∨ n6 = 1 by omega) with hh | hh; (rw [hh]; exact Or.inl rfl); (rw [hh]; exact Or.inr rfl)⟩⟩, mB.of ht hP⟩, hS.F ht⟩) hS.2.2 dX12_book_172
        · have c4 : n6 = 1 := (nI_eq (a := n6) (b := 1) (by omega) (by omega)).mp c4
          refine lv_iload_n hx hb dX12_book_151 rfl (lv_at hl 1 rfl) ?_
          refine lv_if_le (tgt := 159) hx hb dX12_book_152 (by decide) (fun c6 => ?_) (fun c6 => ?_)
          · have c6 : k27 ≤ 0 := (nI_leI (a := k27) (b := 0) (by omega) (by omega)).mp c6
            refine lv_iconst (v := 0) hx hb dX12_book_159 (by decide) ?_
            refine va_callv (va_runV (As := [.int 0]) (rest := []) ⟨hx, hb, hml, hown, hts⟩ (m_stay0 l dC dI ar cy _ hN st49 sl29  hG.1) (cwV 1 hts gX12_book_X12_stay rfl rfl rfl (by decide +kernel) ⟨Nat.le_of_ble_eq_true rfl, Nat.le_of_ble_eq_true rfl⟩) ⟨fun a U g mk q => ⟨q.1, mPre.blind q.2⟩, va_recv hK hP (ci := 11) (q0 := 0) rfl rfl, fun U hU hW => ⟨rfl, mPre.of hP hK hU hW⟩⟩ rfl rfl hl.1 rfl (lv_room (Nat.le_of_ble_eq_true rfl)) dX12_book_160 ⟨Nat.le_of_ble_eq_true rfl, Nat.le_of_ble_eq_true rfl⟩) hS (fun q _ h => MA.le hS.1 q h) (MA.le hS.1) (fun x t H locs ht hvm hw hB _ _ hS => ?_)
            have hP := mB.at ht hB
            clear hB ht hvm
            obtain ⟨st58, sl59⟩ := x
            obtain ⟨hG2, hL2, hw⟩ := hw
            have hL : LQ [7, 9] sl sl59 := hL.tr hL2 (by decide)
            clear hL2
            have hP : va_P (dC, dI) vwCl (mw ar cy st58 sl59) _ := hP
            have hG : MG [2, 6, 7, 8, 9, 10, 11, 12, 15, 19, 20, 21, 22] st st58 := hG.tr hG2 (by decide)
            have hG60 : MG [1] st14 st58 := hG50.tr hG2 (by decide)
            have hG61 : MG [1, 13, 14] st23 st58 := hG51.tr hG2 (by decide)
            have hGst58 : MG [1, 2, 3, 4, 5, 6, 7, 8, 9, 10, 11, 12, 13, 14, 15, 16, 17, 19, 20, 21, 22, 23] st49 st58 := hG2
            clear hG2
            clear hw
            refine lv_iload_n hx hb dX12_book_163 rfl (lv_at hl 0 rfl) ?_
            refine lv_if_ne (tgt := 171) hx hb dX12_book_164 (by decide) (fun c7 => ?_) (fun c7 => ?_)
            · refine lv_iload_n hx hb dX12_book_171 rfl (lv_at hl 1 rfl) ?_
              exact W.iret (v := (nI k27)) hx hb hr (fun t ht hW => ⟨⟨(nI k27), (st58, sl59), rfl, ⟨hG, hL, Or.inl ⟨by show st58 0 2 = 0; rw [hGst58.2 0 2 (by decide), est49, up2_ne (r := 0) (k := 41) (a := 0) (j := 2) _ _ (by omega), est46, up2_ne (r := 15) (k := 3) (a := 0) (j := 2) _ _ (by omega), est42, up2_ne (r := 15) (k := 2) (a := 0) (j := 2) _ _ (by omega), est38, up2_ne (r := 15) (k := 1) (a := 0) (j := 2) _ _ (by omega), est35, up2_ne (r := 15) (k := 0) (a := 0) (j := 2) _ _ (by omega), hG31.2 0 2 (by decide), hGst23.2 0 2 (by decide), hG17.2 0 2 (by decide), est14, up2_ne (r := 0) (k := 40) (a := 0) (j := 2) _ _ (by omega), hf13], by rcases (show n6 = 0 ∨ n6 = 1 by omega) with hh | hh; (rw [hh]; exact Or.inl rfl); (rw [hh]; exact Or.inr rfl)⟩⟩, mB.of ht hP⟩, hS.F ht⟩) hS.2.2 dX12_book_172
            · refine lv_iconst (v := (-1)) hx hb dX12_book_167 (by decide) ?_
              refine lv_goto (tgt := 172) hx hb dX12_book_168 (by decide) ?_
              exact W.iret (v := (-1)) hx hb hr (fun t ht hW => ⟨⟨(-1), (st58, sl59), rfl, ⟨hG, hL, Or.inl ⟨by show st58 0 2 = 0; rw [hGst58.2 0 2 (by decide), est49, up2_ne (r := 0) (k := 41) (a := 0) (j := 2) _ _ (by omega), est46, up2_ne (r := 15) (k := 3) (a := 0) (j := 2) _ _ (by omega), est42, up2_ne (r := 15) (k := 2) (a := 0) (j := 2) _ _ (by omega), est38, up2_ne (r := 15) (k := 1) (a := 0) (j := 2) _ _ (by omega), est35, up2_ne (r := 15) (k := 0) (a := 0) (j := 2) _ _ (by omega), hG31.2 0 2 (by decide), hGst23.2 0 2 (by decide), hG17.2 0 2 (by decide), est14, up2_ne (r := 0) (k := 40) (a := 0) (j := 2) _ _ (by omega), hf13], by rcases (show n6 = 0 ∨ n6 = 1 by omega) with hh | hh; (rw [hh]; exact Or.inl rfl); (rw [hh]; exact Or.inr rfl)⟩⟩, mB.of ht hP⟩, hS.F ht⟩) hS.2.2 dX12_book_172
          · have c6 : ¬ k27 ≤ 0 := fun hh => c6 ((nI_leI (a := k27) (b := 0) (by omega) (by omega)).mpr hh)
            refine lv_iconst (v := 1) hx hb dX12_book_155 (by decide) ?_
            refine lv_goto (tgt := 160) hx hb dX12_book_156 (by decide) ?_
            refine va_callv (va_runV (As := [.int 1]) (rest := []) ⟨hx, hb, hml, hown, hts⟩ (m_stay1 l dC dI ar cy _ hN st49 sl29  hG.1) (cwV 1 hts gX12_book_X12_stay rfl rfl rfl (by decide +kernel) ⟨Nat.le_of_ble_eq_true rfl, Nat.le_of_ble_eq_true rfl⟩) ⟨fun a U g mk q => ⟨q.1, mPre.blind q.2⟩, va_recv hK hP (ci := 11) (q0 := 0) rfl rfl, fun U hU hW => ⟨rfl, mPre.of hP hK hU hW⟩⟩ rfl rfl hl.1 rfl (lv_room (Nat.le_of_ble_eq_true rfl)) dX12_book_160 ⟨Nat.le_of_ble_eq_true rfl, Nat.le_of_ble_eq_true rfl⟩) hS (fun q _ h => MA.le hS.1 q h) (MA.le hS.1) (fun x t H locs ht hvm hw hB _ _ hS => ?_)
            have hP := mB.at ht hB
            clear hB ht hvm
            obtain ⟨st63, sl64⟩ := x
            obtain ⟨hG2, hL2, hw⟩ := hw
            have hL : LQ [7, 9] sl sl64 := hL.tr hL2 (by decide)
            clear hL2
            have hP : va_P (dC, dI) vwCl (mw ar cy st63 sl64) _ := hP
            have hG : MG [2, 6, 7, 8, 9, 10, 11, 12, 15, 19, 20, 21, 22] st st63 := hG.tr hG2 (by decide)
            have hG65 : MG [1] st14 st63 := hG50.tr hG2 (by decide)
            have hG66 : MG [1, 13, 14] st23 st63 := hG51.tr hG2 (by decide)
            have hGst63 : MG [1, 2, 3, 4, 5, 6, 7, 8, 9, 10, 11, 12, 13, 14, 15, 16, 17, 19, 20, 21, 22, 23] st49 st63 := hG2
            clear hG2
            clear hw
            refine lv_iload_n hx hb dX12_book_163 rfl (lv_at hl 0 rfl) ?_
            refine lv_if_ne (tgt := 171) hx hb dX12_book_164 (by decide) (fun c8 => ?_) (fun c8 => ?_)
            · refine lv_iload_n hx hb dX12_book_171 rfl (lv_at hl 1 rfl) ?_
              exact W.iret (v := (nI k27)) hx hb hr (fun t ht hW => ⟨⟨(nI k27), (st63, sl64), rfl, ⟨hG, hL, Or.inl ⟨by show st63 0 2 = 0; rw [hGst63.2 0 2 (by decide), est49, up2_ne (r := 0) (k := 41) (a := 0) (j := 2) _ _ (by omega), est46, up2_ne (r := 15) (k := 3) (a := 0) (j := 2) _ _ (by omega), est42, up2_ne (r := 15) (k := 2) (a := 0) (j := 2) _ _ (by omega), est38, up2_ne (r := 15) (k := 1) (a := 0) (j := 2) _ _ (by omega), est35, up2_ne (r := 15) (k := 0) (a := 0) (j := 2) _ _ (by omega), hG31.2 0 2 (by decide), hGst23.2 0 2 (by decide), hG17.2 0 2 (by decide), est14, up2_ne (r := 0) (k := 40) (a := 0) (j := 2) _ _ (by omega), hf13], by rcases (show n6 = 0 ∨ n6 = 1 by omega) with hh | hh; (rw [hh]; exact Or.inl rfl); (rw [hh]; exact Or.inr rfl)⟩⟩, mB.of ht hP⟩, hS.F ht⟩) hS.2.2 dX12_book_172
            · refine lv_iconst (v := (-1)) hx hb dX12_book_167 (by decide) ?_
              refine lv_goto (tgt := 172) hx hb dX12_book_168 (by decide) ?_
              exact W.iret (v := (-1)) hx hb hr (fun t ht hW => ⟨⟨(-1), (st63, sl64), rfl, ⟨hG, hL, Or.inl ⟨by show st63 0 2 = 0; rw [hGst63.2 0 2 (by decide), est49, up2_ne (r := 0) (k := 41) (a := 0) (j := 2) _ _ (by omega), est46, up2_ne (r := 15) (k := 3) (a := 0) (j := 2) _ _ (by omega), est42, up2_ne (r := 15) (k := 2) (a := 0) (j := 2) _ _ (by omega), est38, up2_ne (r := 15) (k := 1) (a := 0) (j := 2) _ _ (by omega), est35, up2_ne (r := 15) (k := 0) (a := 0) (j := 2) _ _ (by omega), hG31.2 0 2 (by decide), hGst23.2 0 2 (by decide), hG17.2 0 2 (by decide), est14, up2_ne (r := 0) (k := 40) (a := 0) (j := 2) _ _ (by omega), hf13], by rcases (show n6 = 0 ∨ n6 = 1 by omega) with hh | hh; (rw [hh]; exact Or.inl rfl); (rw [hh]; exact Or.inr rfl)⟩⟩, mB.of ht hP⟩, hS.F ht⟩) hS.2.2 dX12_book_172
      · have c3 : ¬ q0 ≤ k27 := fun hh => c3 ((nI_leI (a := q0) (b := k27) (by omega) (by omega)).mpr hh)
        refine lv_iload_n hx hb dX12_book_81 rfl (lv_at hl 0 rfl) ?_
        refine lv_if_ne (tgt := 103) hx hb dX12_book_82 (by decide) (fun c9 => ?_) (fun c9 => ?_)
        · refine lv_aload_n hx hb dX12_book_103 rfl (lv_at hl 2 rfl) ?_
          refine va_get (D := (dC, dI)) (ci := 11) (v := .ref (ar 15)) (C := RX12) (T := TX12) (N := 47) hx hb hts ii_X12_book hown hK hP 0 rfl rfl 39 (by decide) (hts _ mm_X12_book_5) (fun _ hh => hh) rfl dX12_book_104 ?_
          refine lv_iconst (v := 0) hx hb dX12_book_107 (by decide) ?_
          refine lv_iload_n hx hb dX12_book_108 rfl (lv_at hl 0 rfl) ?_
          refine va_iast hx hb hK hP (mD hN _ _ _ _) hS 15 14 rfl rfl (i := 0) (zz_in (by decide)) dX12_book_109 (fun H locs hP _ hS => ?_)
          have hP : va_P (dC, dI) vwCl (mw ar cy (up2 st28 15 0 z26) sl29) H := hP
          obtain ⟨st67, est67⟩ : ∃ y, y = up2 st28 15 0 z26 := ⟨_, rfl⟩
          have hG : MG [2, 6, 7, 8, 9, 10, 11, 12, 15, 19, 20, 21, 22] st st67 := by rw [est67]; exact hG.up (rz (by decide : mr 15 0 = 0)) (pn (by decide : pcl 15 0 = 0) (by decide))
          have hG68 : MG [1] st14 st67 := by rw [est67]; exact hG30.up (rz (by decide : mr 15 0 = 0)) (pn (by decide : pcl 15 0 = 0) (by decide))
          have hG69 : MG [1, 13, 14] st23 st67 := by rw [est67]; exact hG31.up (rz (by decide : mr 15 0 = 0)) (pn (by decide : pcl 15 0 = 0) (by decide))
          rw [← est67] at hP
          refine lv_aload_n hx hb dX12_book_110 rfl (lv_at hl 2 rfl) ?_
          refine va_get (D := (dC, dI)) (ci := 11) (v := .ref (ar 15)) (C := RX12) (T := TX12) (N := 47) hx hb hts ii_X12_book hown hK hP 0 rfl rfl 39 (by decide) (hts _ mm_X12_book_5) (fun _ hh => hh) rfl dX12_book_111 ?_
          refine lv_iconst (v := 1) hx hb dX12_book_114 (by decide) ?_
          refine lv_iload_n hx hb dX12_book_115 rfl (lv_at hl 1 rfl) ?_
          refine va_iast hx hb hK hP (mD hN _ _ _ _) hS 15 14 rfl rfl (i := 1) (zz_in (by decide)) dX12_book_116 (fun H locs hP _ hS => ?_)
          have hP : va_P (dC, dI) vwCl (mw ar cy (up2 st67 15 1 (nI k27)) sl29) H := hP
          obtain ⟨st70, est70⟩ : ∃ y, y = up2 st67 15 1 (nI k27) := ⟨_, rfl⟩
          have hG : MG [2, 6, 7, 8, 9, 10, 11, 12, 15, 19, 20, 21, 22] st st70 := by rw [est70]; exact hG.up (rz (by decide : mr 15 1 = 0)) (pn (by decide : pcl 15 1 = 0) (by decide))
          have hG71 : MG [1] st14 st70 := by rw [est70]; exact hG68.up (rz (by decide : mr 15 1 = 0)) (pn (by decide : pcl 15 1 = 0) (by decide))
          have hG72 : MG [1, 13, 14] st23 st70 := by rw [est70]; exact hG69.up (rz (by decide : mr 15 1 = 0)) (pn (by decide : pcl 15 1 = 0) (by decide))
          rw [← est70] at hP
          refine lv_aload_n hx hb dX12_book_117 rfl (lv_at hl 2 rfl) ?_
          refine va_get (D := (dC, dI)) (ci := 11) (v := .ref (ar 15)) (C := RX12) (T := TX12) (N := 47) hx hb hts ii_X12_book hown hK hP 0 rfl rfl 39 (by decide) (hts _ mm_X12_book_5) (fun _ hh => hh) rfl dX12_book_118 ?_
          refine lv_iconst (v := 2) hx hb dX12_book_121 (by decide) ?_
          refine lv_aload_n hx hb dX12_book_122 rfl (lv_at hl 2 rfl) ?_
          refine va_get (D := (dC, dI)) (ci := 11) (v := .ref (ar 2)) (C := RX12) (T := TX12) (N := 47) hx hb hts ii_X12_book hown hK hP 0 rfl rfl 14 (by decide) (hts _ mm_X12_book_6) (fun _ hh => hh) rfl dX12_book_123 ?_
          refine lv_bipush (v := 61) hx hb dX12_book_126 (by decide) ?_
          refine va_iald hx hb hK hP 2 1 rfl rfl (i := 61) (zz_in (by decide)) dX12_book_128 ?_
          refine lv_topi (fun z73 ez73 => ?_)
          refine va_iast hx hb hK hP (mD hN _ _ _ _) hS 15 14 rfl rfl (i := 2) (zz_in (by decide)) dX12_book_129 (fun H locs hP _ hS => ?_)
          have hP : va_P (dC, dI) vwCl (mw ar cy (up2 st70 15 2 z73) sl29) H := hP
          obtain ⟨st74, est74⟩ : ∃ y, y = up2 st70 15 2 z73 := ⟨_, rfl⟩
          have hG : MG [2, 6, 7, 8, 9, 10, 11, 12, 15, 19, 20, 21, 22] st st74 := by rw [est74]; exact hG.up (rz (by decide : mr 15 2 = 0)) (pn (by decide : pcl 15 2 = 0) (by decide))
          have hG75 : MG [1] st14 st74 := by rw [est74]; exact hG71.up (rz (by decide : mr 15 2 = 0)) (pn (by decide : pcl 15 2 = 0) (by decide))
          have hG76 : MG [1, 13, 14] st23 st74 := by rw [est74]; exact hG72.up (rz (by decide : mr 15 2 = 0)) (pn (by decide : pcl 15 2 = 0) (by decide))
          rw [← est74] at hP
          refine lv_aload_n hx hb dX12_book_130 rfl (lv_at hl 2 rfl) ?_
          refine va_get (D := (dC, dI)) (ci := 11) (v := .ref (ar 15)) (C := RX12) (T := TX12) (N := 47) hx hb hts ii_X12_book hown hK hP 0 rfl rfl 39 (by decide) (hts _ mm_X12_book_5) (fun _ hh => hh) rfl dX12_book_131 ?_
          refine lv_iconst (v := 3) hx hb dX12_book_134 (by decide) ?_
          refine lv_aload_n hx hb dX12_book_135 rfl (lv_at hl 2 rfl) ?_
          refine va_calli (va_runV (As := []) (rest := [.int 3, .ref (ar 15)]) ⟨hx, hb, hml, hown, hts⟩ (m_awaySet l dC dI ar cy _ hN st74 sl29  hG.1) (cwV 0 hts gX12_book_X12_awaySet rfl rfl rfl (by decide +kernel) ⟨Nat.le_of_ble_eq_true rfl, Nat.le_of_ble_eq_true rfl⟩) ⟨fun a U g mk q => ⟨q.1, mPre.blind q.2⟩, va_recv hK hP (ci := 11) (q0 := 0) rfl rfl, fun U hU hW => ⟨rfl, mPre.of hP hK hU hW⟩⟩ rfl rfl hl.1 rfl (lv_room (Nat.le_of_ble_eq_true rfl)) dX12_book_136 ⟨Nat.le_of_ble_eq_true rfl, Nat.le_of_ble_eq_true rfl⟩) hS (fun q _ h => MA.le hS.1 q h) (MA.le hS.1) (fun r77 x t H locs ht hvm hw hB _ _ hS => ?_)
          have hP := mB.at ht hB
          clear hB ht hvm
          obtain ⟨rfl, hw⟩ := hw
          have hP : va_P (dC, dI) vwCl (mw ar cy st74 sl29) _ := hP
          clear hw
          refine va_iast hx hb hK hP (mD hN _ _ _ _) hS 15 14 rfl rfl (i := 3) (zz_in (by decide)) dX12_book_139 (fun H locs hP _ hS => ?_)
          have hP : va_P (dC, dI) vwCl (mw ar cy (up2 st74 15 3 r77) sl29) H := hP
          obtain ⟨st78, est78⟩ : ∃ y, y = up2 st74 15 3 r77 := ⟨_, rfl⟩
          have hG : MG [2, 6, 7, 8, 9, 10, 11, 12, 15, 19, 20, 21, 22] st st78 := by rw [est78]; exact hG.up (rz (by decide : mr 15 3 = 0)) (pn (by decide : pcl 15 3 = 0) (by decide))
          have hG79 : MG [1] st14 st78 := by rw [est78]; exact hG75.up (rz (by decide : mr 15 3 = 0)) (pn (by decide : pcl 15 3 = 0) (by decide))
          have hG80 : MG [1, 13, 14] st23 st78 := by rw [est78]; exact hG76.up (rz (by decide : mr 15 3 = 0)) (pn (by decide : pcl 15 3 = 0) (by decide))
          rw [← est78] at hP
          refine lv_aload_n hx hb dX12_book_140 rfl (lv_at hl 2 rfl) ?_
          refine lv_iconst (v := 1) hx hb dX12_book_141 (by decide) ?_
          refine va_put (D := (dC, dI)) (ci := 11) (v := .int 1) (ty := .boolean) (C := RX12) (T := TX12) (N := 47) hx hb hts ii_X12_book tyX12 tyX12_ok nmX12 hown hK hP (mD hN _ _ _ _) hS 0 rfl rfl 41 (by decide) (hts _ mm_X12_book_7) (fun _ hh => hh) rfl (by decide +kernel) rfl rfl (Nat.le_of_ble_eq_true rfl) dX12_book_142 (fun H locs hP _ hS => ?_)
          have hP : va_P (dC, dI) vwCl (mw ar cy (up2 st78 0 41 1) sl29) H := hP
          obtain ⟨st81, est81⟩ : ∃ y, y = up2 st78 0 41 1 := ⟨_, rfl⟩
          have hG : MG [2, 6, 7, 8, 9, 10, 11, 12, 15, 19, 20, 21, 22] st st81 := by rw [est81]; exact hG.up (rz (by decide : mr 0 41 = 0)) (pn (by decide : pcl 0 41 = 0) (by decide))
          have hG82 : MG [1] st14 st81 := by rw [est81]; exact hG79.up (rz (by decide : mr 0 41 = 0)) (pn (by decide : pcl 0 41 = 0) (by decide))
          have hG83 : MG [1, 13, 14] st23 st81 := by rw [est81]; exact hG80.up (rz (by decide : mr 0 41 = 0)) (pn (by decide : pcl 0 41 = 0) (by decide))
          rw [← est81] at hP
          refine lv_aload_n hx hb dX12_book_145 rfl (lv_at hl 2 rfl) ?_
          refine lv_iload_n hx hb dX12_book_146 rfl (lv_at hl 3 rfl) ?_
          refine lv_iconst (v := 1) hx hb dX12_book_147 (by decide) ?_
          refine lv_icmp_ne (tgt := 159) hx hb dX12_book_148 (by decide) (fun c10 => ?_) (fun c10 => ?_)
          · have c10 : ¬ n6 = 1 := fun hh => c10 ((nI_eq (a := n6) (b := 1) (by omega) (by omega)).mpr hh)
            refine lv_iconst (v := 0) hx hb dX12_book_159 (by decide) ?_
            refine va_callv (va_runV (As := [.int 0]) (rest := []) ⟨hx, hb, hml, hown, hts⟩ (m_stay0 l dC dI ar cy _ hN st81 sl29  hG.1) (cwV 1 hts gX12_book_X12_stay rfl rfl rfl (by decide +kernel) ⟨Nat.le_of_ble_eq_true rfl, Nat.le_of_ble_eq_true rfl⟩) ⟨fun a U g mk q => ⟨q.1, mPre.blind q.2⟩, va_recv hK hP (ci := 11) (q0 := 0) rfl rfl, fun U hU hW => ⟨rfl, mPre.of hP hK hU hW⟩⟩ rfl rfl hl.1 rfl (lv_room (Nat.le_of_ble_eq_true rfl)) dX12_book_160 ⟨Nat.le_of_ble_eq_true rfl, Nat.le_of_ble_eq_true rfl⟩) hS (fun q _ h => MA.le hS.1 q h) (MA.le hS.1) (fun x t H locs ht hvm hw hB _ _ hS => ?_)
            have hP := mB.at ht hB
            clear hB ht hvm
            obtain ⟨st85, sl86⟩ := x
            obtain ⟨hG2, hL2, hw⟩ := hw
            have hL : LQ [7, 9] sl sl86 := hL.tr hL2 (by decide)
            clear hL2
            have hP : va_P (dC, dI) vwCl (mw ar cy st85 sl86) _ := hP
            have hG : MG [2, 6, 7, 8, 9, 10, 11, 12, 15, 19, 20, 21, 22] st st85 := hG.tr hG2 (by decide)
            have hG87 : MG [1] st14 st85 := hG82.tr hG2 (by decide)
            have hG88 : MG [1, 13, 14] st23 st85 := hG83.tr hG2 (by decide)
            have hGst85 : MG [1, 2, 3, 4, 5, 6, 7, 8, 9, 10, 11, 12, 13, 14, 15, 16, 17, 19, 20, 21, 22, 23] st81 st85 := hG2
            clear hG2
            clear hw
            refine lv_iload_n hx hb dX12_book_163 rfl (lv_at hl 0 rfl) ?_
            refine lv_if_ne (tgt := 171) hx hb dX12_book_164 (by decide) (fun c11 => ?_) (fun c11 => ?_)
            · refine lv_iload_n hx hb dX12_book_171 rfl (lv_at hl 1 rfl) ?_
              exact W.iret (v := (nI k27)) hx hb hr (fun t ht hW => ⟨⟨(nI k27), (st85, sl86), rfl, ⟨hG, hL, Or.inl ⟨by show st85 0 2 = 0; rw [hGst85.2 0 2 (by decide), est81, up2_ne (r := 0) (k := 41) (a := 0) (j := 2) _ _ (by omega), est78, up2_ne (r := 15) (k := 3) (a := 0) (j := 2) _ _ (by omega), est74, up2_ne (r := 15) (k := 2) (a := 0) (j := 2) _ _ (by omega), est70, up2_ne (r := 15) (k := 1) (a := 0) (j := 2) _ _ (by omega), est67, up2_ne (r := 15) (k := 0) (a := 0) (j := 2) _ _ (by omega), hG31.2 0 2 (by decide), hGst23.2 0 2 (by decide), hG17.2 0 2 (by decide), est14, up2_ne (r := 0) (k := 40) (a := 0) (j := 2) _ _ (by omega), hf13], by rcases (show n6 = 0 ∨ n6 = 1 by omega) with hh | hh; (rw [hh]; exact Or.inl rfl); (rw [hh]; exact Or.inr rfl)⟩⟩, mB.of ht hP⟩, hS.F ht⟩) hS.2.2 dX12_book_172
            · refine lv_iconst (v := (-1)) hx hb dX12_book_167 (by decide) ?_
              refine lv_goto (tgt := 172) hx hb dX12_book_168 (by decide) ?_
              exact W.iret (v := (-1)) hx hb hr (fun t ht hW => ⟨⟨(-1), (st85, sl86), rfl, ⟨hG, hL, Or.inl ⟨by show st85 0 2 = 0; rw [hGst85.2 0 2 (by decide), est81, up2_ne (r := 0) (k := 41) (a := 0) (j := 2) _ _ (by omega), est78, up2_ne (r := 15) (k := 3) (a := 0) (j := 2) _ _ (by omega), est74, up2_ne (r := 15) (k := 2) (a := 0) (j := 2) _ _ (by omega), est70, up2_ne (r := 15) (k := 1) (a := 0) (j := 2) _ _ (by omega), est67, up2_ne (r := 15) (k := 0) (a := 0) (j := 2) _ _ (by omega), hG31.2 0 2 (by decide), hGst23.2 0 2 (by decide), hG17.2 0 2 (by decide), est14, up2_ne (r := 0) (k := 40) (a := 0) (j := 2) _ _ (by omega), hf13], by rcases (show n6 = 0 ∨ n6 = 1 by omega) with hh | hh; (rw [hh]; exact Or.inl rfl); (rw [hh]; exact Or.inr rfl)⟩⟩, mB.of ht hP⟩, hS.F ht⟩) hS.2.2 dX12_book_172
          · have c10 : n6 = 1 := (nI_eq (a := n6) (b := 1) (by omega) (by omega)).mp c10
            refine lv_iload_n hx hb dX12_book_151 rfl (lv_at hl 1 rfl) ?_
            refine lv_if_le (tgt := 159) hx hb dX12_book_152 (by decide) (fun c12 => ?_) (fun c12 => ?_)
            · have c12 : k27 ≤ 0 := (nI_leI (a := k27) (b := 0) (by omega) (by omega)).mp c12
              refine lv_iconst (v := 0) hx hb dX12_book_159 (by decide) ?_
              refine va_callv (va_runV (As := [.int 0]) (rest := []) ⟨hx, hb, hml, hown, hts⟩ (m_stay0 l dC dI ar cy _ hN st81 sl29  hG.1) (cwV 1 hts gX12_book_X12_stay rfl rfl rfl (by decide +kernel) ⟨Nat.le_of_ble_eq_true rfl, Nat.le_of_ble_eq_true rfl⟩) ⟨fun a U g mk q => ⟨q.1, mPre.blind q.2⟩, va_recv hK hP (ci := 11) (q0 := 0) rfl rfl, fun U hU hW => ⟨rfl, mPre.of hP hK hU hW⟩⟩ rfl rfl hl.1 rfl (lv_room (Nat.le_of_ble_eq_true rfl)) dX12_book_160 ⟨Nat.le_of_ble_eq_true rfl, Nat.le_of_ble_eq_true rfl⟩) hS (fun q _ h => MA.le hS.1 q h) (MA.le hS.1) (fun x t H locs ht hvm hw hB _ _ hS => ?_)
              have hP := mB.at ht hB
              clear hB ht hvm
              obtain ⟨st90, sl91⟩ := x
              obtain ⟨hG2, hL2, hw⟩ := hw
              have hL : LQ [7, 9] sl sl91 := hL.tr hL2 (by decide)
              clear hL2
              have hP : va_P (dC, dI) vwCl (mw ar cy st90 sl91) _ := hP
              have hG : MG [2, 6, 7, 8, 9, 10, 11, 12, 15, 19, 20, 21, 22] st st90 := hG.tr hG2 (by decide)
              have hG92 : MG [1] st14 st90 := hG82.tr hG2 (by decide)
              have hG93 : MG [1, 13, 14] st23 st90 := hG83.tr hG2 (by decide)
              have hGst90 : MG [1, 2, 3, 4, 5, 6, 7, 8, 9, 10, 11, 12, 13, 14, 15, 16, 17, 19, 20, 21, 22, 23] st81 st90 := hG2
              clear hG2
              clear hw
              refine lv_iload_n hx hb dX12_book_163 rfl (lv_at hl 0 rfl) ?_
              refine lv_if_ne (tgt := 171) hx hb dX12_book_164 (by decide) (fun c13 => ?_) (fun c13 => ?_)
              · refine lv_iload_n hx hb dX12_book_171 rfl (lv_at hl 1 rfl) ?_
                exact W.iret (v := (nI k27)) hx hb hr (fun t ht hW => ⟨⟨(nI k27), (st90, sl91), rfl, ⟨hG, hL, Or.inl ⟨by show st90 0 2 = 0; rw [hGst90.2 0 2 (by decide), est81, up2_ne (r := 0) (k := 41) (a := 0) (j := 2) _ _ (by omega), est78, up2_ne (r := 15) (k := 3) (a := 0) (j := 2) _ _ (by omega), est74, up2_ne (r := 15) (k := 2) (a := 0) (j := 2) _ _ (by omega), est70, up2_ne (r := 15) (k := 1) (a := 0) (j := 2) _ _ (by omega), est67, up2_ne (r := 15) (k := 0) (a := 0) (j := 2) _ _ (by omega), hG31.2 0 2 (by decide), hGst23.2 0 2 (by decide), hG17.2 0 2 (by decide), est14, up2_ne (r := 0) (k := 40) (a := 0) (j := 2) _ _ (by omega), hf13], by rcases (show n6 = 0 ∨ n6 = 1 by omega) with hh | hh; (rw [hh]; exact Or.inl rfl); (rw [hh]; exact Or.inr rfl)⟩⟩, mB.of ht hP⟩, hS.F ht⟩) hS.2.2 dX12_book_172
              · refine lv_iconst (v := (-1)) hx hb dX12_book_167 (by decide) ?_
                refine lv_goto (tgt := 172) hx hb dX12_book_168 (by decide) ?_
                exact W.iret (v := (-1)) hx hb hr (fun t ht hW => ⟨⟨(-1), (st90, sl91), rfl, ⟨hG, hL, Or.inl ⟨by show st90 0 2 = 0; rw [hGst90.2 0 2 (by decide), est81, up2_ne (r := 0) (k := 41) (a := 0) (j := 2) _ _ (by omega), est78, up2_ne (r := 15) (k := 3) (a := 0) (j := 2) _ _ (by omega), est74, up2_ne (r := 15) (k := 2) (a := 0) (j := 2) _ _ (by omega), est70, up2_ne (r := 15) (k := 1) (a := 0) (j := 2) _ _ (by omega), est67, up2_ne (r := 15) (k := 0) (a := 0) (j := 2) _ _ (by omega), hG31.2 0 2 (by decide), hGst23.2 0 2 (by decide), hG17.2 0 2 (by decide), est14, up2_ne (r := 0) (k := 40) (a := 0) (j := 2) _ _ (by omega), hf13], by rcases (show n6 = 0 ∨ n6 = 1 by omega) with hh | hh; (rw [hh]; exact Or.inl rfl); (rw [hh]; exact Or.inr rfl)⟩⟩, mB.of ht hP⟩, hS.F ht⟩) hS.2.2 dX12_book_172
            · have c12 : ¬ k27 ≤ 0 := fun hh => c12 ((nI_leI (a := k27) (b := 0) (by omega) (by omega)).mpr hh)
              refine lv_iconst (v := 1) hx hb dX12_book_155 (by decide) ?_
              refine lv_goto (tgt := 160) hx hb dX12_book_156 (by decide) ?_
              refine va_callv (va_runV (As := [.int 1]) (rest := []) ⟨hx, hb, hml, hown, hts⟩ (m_stay1 l dC dI ar cy _ hN st81 sl29  hG.1) (cwV 1 hts gX12_book_X12_stay rfl rfl rfl (by decide +kernel) ⟨Nat.le_of_ble_eq_true rfl, Nat.le_of_ble_eq_true rfl⟩) ⟨fun a U g mk q => ⟨q.1, mPre.blind q.2⟩, va_recv hK hP (ci := 11) (q0 := 0) rfl rfl, fun U hU hW => ⟨rfl, mPre.of hP hK hU hW⟩⟩ rfl rfl hl.1 rfl (lv_room (Nat.le_of_ble_eq_true rfl)) dX12_book_160 ⟨Nat.le_of_ble_eq_true rfl, Nat.le_of_ble_eq_true rfl⟩) hS (fun q _ h => MA.le hS.1 q h) (MA.le hS.1) (fun x t H locs ht hvm hw hB _ _ hS => ?_)
              have hP := mB.at ht hB
              clear hB ht hvm
              obtain ⟨st95, sl96⟩ := x
              obtain ⟨hG2, hL2, hw⟩ := hw
              have hL : LQ [7, 9] sl sl96 := hL.tr hL2 (by decide)
              clear hL2
              have hP : va_P (dC, dI) vwCl (mw ar cy st95 sl96) _ := hP
              have hG : MG [2, 6, 7, 8, 9, 10, 11, 12, 15, 19, 20, 21, 22] st st95 := hG.tr hG2 (by decide)
              have hG97 : MG [1] st14 st95 := hG82.tr hG2 (by decide)
              have hG98 : MG [1, 13, 14] st23 st95 := hG83.tr hG2 (by decide)
              have hGst95 : MG [1, 2, 3, 4, 5, 6, 7, 8, 9, 10, 11, 12, 13, 14, 15, 16, 17, 19, 20, 21, 22, 23] st81 st95 := hG2
              clear hG2
              clear hw
              refine lv_iload_n hx hb dX12_book_163 rfl (lv_at hl 0 rfl) ?_
              refine lv_if_ne (tgt := 171) hx hb dX12_book_164 (by decide) (fun c14 => ?_) (fun c14 => ?_)
              · refine lv_iload_n hx hb dX12_book_171 rfl (lv_at hl 1 rfl) ?_
                exact W.iret (v := (nI k27)) hx hb hr (fun t ht hW => ⟨⟨(nI k27), (st95, sl96), rfl, ⟨hG, hL, Or.inl ⟨by show st95 0 2 = 0; rw [hGst95.2 0 2 (by decide), est81, up2_ne (r := 0) (k := 41) (a := 0) (j := 2) _ _ (by omega), est78, up2_ne (r := 15) (k := 3) (a := 0) (j := 2) _ _ (by omega), est74, up2_ne (r := 15) (k := 2) (a := 0) (j := 2) _ _ (by omega), est70, up2_ne (r := 15) (k := 1) (a := 0) (j := 2) _ _ (by omega), est67, up2_ne (r := 15) (k := 0) (a := 0) (j := 2) _ _ (by omega), hG31.2 0 2 (by decide), hGst23.2 0 2 (by decide), hG17.2 0 2 (by decide), est14, up2_ne (r := 0) (k := 40) (a := 0) (j := 2) _ _ (by omega), hf13], by rcases (show n6 = 0 ∨ n6 = 1 by omega) with hh | hh; (rw [hh]; exact Or.inl rfl); (rw [hh]; exact Or.inr rfl)⟩⟩, mB.of ht hP⟩, hS.F ht⟩) hS.2.2 dX12_book_172
              · refine lv_iconst (v := (-1)) hx hb dX12_book_167 (by decide) ?_
                refine lv_goto (tgt := 172) hx hb dX12_book_168 (by decide) ?_
                exact W.iret (v := (-1)) hx hb hr (fun t ht hW => ⟨⟨(-1), (st95, sl96), rfl, ⟨hG, hL, Or.inl ⟨by show st95 0 2 = 0; rw [hGst95.2 0 2 (by decide), est81, up2_ne (r := 0) (k := 41) (a := 0) (j := 2) _ _ (by omega), est78, up2_ne (r := 15) (k := 3) (a := 0) (j := 2) _ _ (by omega), est74, up2_ne (r := 15) (k := 2) (a := 0) (j := 2) _ _ (by omega), est70, up2_ne (r := 15) (k := 1) (a := 0) (j := 2) _ _ (by omega), est67, up2_ne (r := 15) (k := 0) (a := 0) (j := 2) _ _ (by omega), hG31.2 0 2 (by decide), hGst23.2 0 2 (by decide), hG17.2 0 2 (by decide), est14, up2_ne (r := 0) (k := 40) (a := 0) (j := 2) _ _ (by omega), hf13], by rcases (show n6 = 0 ∨ n6 = 1 by omega) with hh | hh; (rw [hh]; exact Or.inl rfl); (rw [hh]; exact Or.inr rfl)⟩⟩, mB.of ht hP⟩, hS.F ht⟩) hS.2.2 dX12_book_172
        · refine lv_aload_n hx hb dX12_book_85 rfl (lv_at hl 2 rfl) ?_
          refine lv_iconst (v := 5) hx hb dX12_book_86 (by decide) ?_
          refine lv_iload_n hx hb dX12_book_87 rfl (lv_at hl 1 rfl) ?_
          refine lv_imul hx hb dX12_book_88 ?_
          refine zz_top (v := nI (5 * k27)) (nI_mul 5 k27) ?_
          refine va_calli (va_runV (As := [.int (nI (5 * k27))]) (rest := []) ⟨hx, hb, hml, hown, hts⟩ (m_goBy l dC dI ar cy _ hN st28 sl29 (5 * k27) (by omega) hG.1 ((LI.mg hG31 (by decide) (LI.mg hGst23 (by decide) hq1)) _ (by omega))) (cwV 1 hts gX12_book_X12_goBy rfl rfl rfl (by decide +kernel) ⟨Nat.le_of_ble_eq_true rfl, Nat.le_of_ble_eq_true rfl⟩) ⟨fun a U g mk q => ⟨q.1, mPre.blind q.2⟩, va_recv hK hP (ci := 11) (q0 := 0) rfl rfl, fun U hU hW => ⟨rfl, mPre.of hP hK hU hW⟩⟩ rfl rfl hl.1 rfl (lv_room (Nat.le_of_ble_eq_true rfl)) dX12_book_89 ⟨Nat.le_of_ble_eq_true rfl, Nat.le_of_ble_eq_true rfl⟩) hS (fun q _ h => MA.le hS.1 q h) (MA.le hS.1) (fun r99 x t H locs ht hvm hw hB _ _ hS => ?_)
          have hP := mB.at ht hB
          clear hB ht hvm
          obtain ⟨st100, sl101⟩ := x
          obtain ⟨hG2, hL2, hw⟩ := hw
          have hL : LQ [7, 9] sl sl101 := hL.tr hL2 (by decide)
          clear hL2
          have hP : va_P (dC, dI) vwCl (mw ar cy st100 sl101) _ := hP
          have hG : MG [2, 6, 7, 8, 9, 10, 11, 12, 15, 19, 20, 21, 22] st st100 := hG.tr hG2 (by decide)
          have hG102 : MG [1] st14 st100 := hG30.tr hG2 (by decide)
          have hG103 : MG [1, 13, 14] st23 st100 := hG31.tr hG2 (by decide)
          have hGst100 : MG [1, 2, 3, 4, 5, 6, 7, 8, 9, 10, 11, 12, 13, 14, 15, 16, 17, 19, 20, 21, 22, 23] st28 st100 := hG2
          clear hG2
          clear hw
          refine lv_istore_n (lv' := [(3, .int r99), (2, .int (nI k27)), (0, .ref (ar 0)), (1, .int (nI n6))]) hx hb dX12_book_92 rfl hl (by decide) rfl (fun ls hl => ?_)
          refine lv_iload_n hx hb dX12_book_93 rfl (lv_at hl 0 rfl) ?_
          refine lv_if_ne (tgt := 73) hx hb dX12_book_94 (by decide) (fun c15 => ?_) (fun c15 => ?_)
          · exact ih34 (2 * (41 - k27) + (if (r99 : Int32) = 0 then 1 else 0)) _ _ _ _ (by rw [hm33, if_pos (by assumption : z26 = 0)]; first | (rw [if_neg (by assumption)]; omega) | (split <;> omega)) ⟨r99, k27, st100, sl101, rfl, by omega, by omega, hP, hG, hG102, hG103, hL, hS, lv_sub hl [0, 1, 2, 3] rfl, rfl⟩
          · refine lv_iinc (v := (nI (k27 + 1))) (lv' := [(2, .int (nI (k27 + 1))), (3, .int r99), (0, .ref (ar 0)), (1, .int (nI n6))]) hx hb dX12_book_97 hl (k := 1) rfl (nI_add k27 1) (by decide) rfl (fun ls hl => ?_)
            refine lv_goto (tgt := 73) hx hb dX12_book_100 (by decide) ?_
            exact ih34 (2 * (41 - (k27 + 1)) + (if (r99 : Int32) = 0 then 1 else 0)) _ _ _ _ (by rw [hm33, if_pos (by assumption : z26 = 0)]; first | (rw [if_neg (by assumption)]; omega) | (split <;> omega)) ⟨r99, (k27 + 1), st100, sl101, rfl, by omega, by omega, hP, hG, hG102, hG103, hL, hS, lv_sub hl [1, 0, 2, 3] rfl, rfl⟩
    · refine lv_aload_n hx hb dX12_book_37 rfl (lv_at hl 0 rfl) ?_
      refine va_calli (va_runV (As := []) (rest := []) ⟨hx, hb, hml, hown, hts⟩ (m_readBookLine l dC dI ar cy _ hN st15 sl16 q0 g18 n11  hG.1 ((⟨by rw [hTg18.1], by rw [hTg18.2.1], by omega, by omega⟩ : TS st15 g18 n11)) (by rw [eq0]) (hq1) (by omega)) (cwV 0 hts gX12_book_X12_readBookLine rfl rfl rfl (by decide +kernel) ⟨Nat.le_of_ble_eq_true rfl, Nat.le_of_ble_eq_true rfl⟩) ⟨fun a U g mk q => ⟨q.1, mPre.blind q.2⟩, va_recv hK hP (ci := 11) (q0 := 0) rfl rfl, fun U hU hW => ⟨rfl, mPre.of hP hK hU hW⟩⟩ rfl rfl hl.1 rfl (lv_room (Nat.le_of_ble_eq_true rfl)) dX12_book_38 ⟨Nat.le_of_ble_eq_true rfl, Nat.le_of_ble_eq_true rfl⟩) hS (fun q _ h => MA.le hS.1 q h) (MA.le hS.1) (fun r104 x t H locs ht hvm hw hB _ _ hS => ?_)
      have hP := mB.at ht hB
      clear hB ht hvm
      obtain ⟨st105, sl106⟩ := x
      obtain ⟨hG2, hL2, hw⟩ := hw
      have hL : LQ [7, 9] sl sl106 := hL.tr hL2 (by decide)
      clear hL2
      dsimp only at hw
      have hP : va_P (dC, dI) vwCl (mw ar cy st105 sl106) _ := hP
      have hG : MG [2, 6, 7, 8, 9, 10, 11, 12, 15, 19, 20, 21, 22] st st105 := hG.tr hG2 (by decide)
      have hG107 : MG [1] st14 st105 := hG17.tr hG2 (by decide)
      have hGst105 : MG [1, 2, 3, 6, 7, 8, 9, 10, 11, 12, 14, 15, 19, 20, 21, 22] st15 st105 := hG2
      clear hG2
      rcases hw with ⟨n108, rfl, hf109, hf110, hf111, hf112⟩ | rfl
      · have hf109c := hf109.2.2.1
        have hf109d := hf109.2.2.2
        refine lv_if_ne (tgt := 52) hx hb dX12_book_41 (by decide) (fun _ => ?_) (fun cc => absurd cc (by decide))
        refine lv_aload_n hx hb dX12_book_52 rfl (lv_at hl 0 rfl) ?_
        refine lv_dup hx hb dX12_book_53 rfl ?_
        refine va_get (D := (dC, dI)) (ci := 11) (v := .int (st105 0 40)) (C := RX12) (T := TX12) (N := 47) hx hb hts ii_X12_book hown hK hP 0 rfl rfl 40 (by decide) (hts _ mm_X12_book_2) (fun _ hh => hh) rfl dX12_book_54 ?_
        refine zz_top (v := (nI q0)) (by show st105 0 40 = _; rw [hGst105.2 0 40 (by decide), eq0]) ?_
        refine lv_iconst (v := 1) hx hb dX12_book_57 (by decide) ?_
        refine lv_iadd hx hb dX12_book_58 ?_
        refine zz_top (v := nI (q0 + 1)) (nI_add q0 1) ?_
        refine va_put (D := (dC, dI)) (ci := 11) (v := .int (nI (q0 + 1))) (ty := .int) (C := RX12) (T := TX12) (N := 47) hx hb hts ii_X12_book tyX12 tyX12_ok nmX12 hown hK hP (mD hN _ _ _ _) hS 0 rfl rfl 40 (by decide) (hts _ mm_X12_book_2) (fun _ hh => hh) rfl (by decide +kernel) rfl rfl (Nat.le_of_ble_eq_true rfl) dX12_book_59 (fun H locs hP _ hS => ?_)
        have hP : va_P (dC, dI) vwCl (mw ar cy (up2 st105 0 40 (nI (q0 + 1))) sl106) H := hP
        obtain ⟨st113, est113⟩ : ∃ y, y = up2 st105 0 40 (nI (q0 + 1)) := ⟨_, rfl⟩
        have hG : MG [2, 6, 7, 8, 9, 10, 11, 12, 15, 19, 20, 21, 22] st st113 := by rw [est113]; exact hG.up (rn (n := (q0 + 1)) (by decide : mr 0 40 = 41) (by omega)) (pn (by decide : pcl 0 40 = 14) (by decide))
        have hG114 : MG [1] st14 st113 := by rw [est113]; exact hG107.up (rn (n := (q0 + 1)) (by decide : mr 0 40 = 41) (by omega)) (pn (by decide : pcl 0 40 = 14) (by decide))
        rw [← est113] at hP
        refine lv_goto (tgt := 30) hx hb dX12_book_62 (by decide) ?_
        exact ih20 (n11 - n108) _ _ _ _ (by omega) ⟨st113, sl106, n108, rfl, ⟨by rw [est113, up2_ne (r := 0) (k := 40) (a := 0) (j := 5) _ _ (by omega), hf109.1], by rw [est113, up2_ne (r := 0) (k := 40) (a := 0) (j := 3) _ _ (by omega), hf109.2.1], by omega, by omega⟩, by omega, ⟨(q0 + 1), by omega, by rw [est113, up2_same], by rw [est113]; exact hf111⟩, hP, hG, hG114, hL, hS, lv_sub hl [0, 1] rfl, rfl⟩
      · refine lv_if_ne (tgt := 52) hx hb dX12_book_41 (by decide) (fun cc => absurd (by decide) cc) (fun _ => ?_)
        refine lv_bipush (v := (-2)) hx hb dX12_book_44 (by decide) ?_
        refine lv_aload_n hx hb dX12_book_46 rfl (lv_at hl 0 rfl) ?_
        refine va_get (D := (dC, dI)) (ci := 11) (v := .int (st105 0 11)) (C := RX12) (T := TX12) (N := 47) hx hb hts ii_X12_book hown hK hP 0 rfl rfl 11 (by decide) (hts _ mm_X12_book_4) (fun _ hh => hh) rfl dX12_book_47 ?_
        refine lv_topi (fun z115 ez115 => ?_)
        refine lv_isub hx hb dX12_book_50 ?_
        refine lv_topi (fun z116 ez116 => ?_)
        exact W.iret (v := z116) hx hb hr (fun t ht hW => ⟨⟨z116, (st105, sl106), rfl, ⟨hG, hL, Or.inl ⟨by show st105 0 2 = 0; rw [hGst105.2 0 2 (by decide), hG17.2 0 2 (by decide), est14, up2_ne (r := 0) (k := 40) (a := 0) (j := 2) _ _ (by omega), hf13], by rcases (show n6 = 0 ∨ n6 = 1 by omega) with hh | hh; (rw [hh]; exact Or.inl rfl); (rw [hh]; exact Or.inr rfl)⟩⟩, mB.of ht hP⟩, hS.F ht⟩) hS.2.2 dX12_book_51
  · refine lv_if_ne (tgt := 18) hx hb dX12_book_11 (by decide) (fun cc => absurd (by decide) cc) (fun _ => ?_)
    refine lv_sipush (v := (-1000)) hx hb dX12_book_14 (by decide) ?_
    exact W.iret (v := (-1000)) hx hb hr (fun t ht hW => ⟨⟨(-1000), (st1, sl), rfl, ⟨hG, hL, Or.inr ⟨by show st1 0 2 = st 0 2; rw [est1, up2_ne (r := 0) (k := 0) (a := 0) (j := 2) _ _ (by omega)], fun hh => hf5 (hh.elim (fun e => by rw [e]; decide) (fun e => by rw [e]; decide))⟩⟩, mB.of ht hP⟩, hS.F ht⟩) hS.2.2 dX12_book_17
