set_option maxHeartbeats 4000000 in
set_option maxRecDepth 100000 in
theorem m_readOfAll (l : Launch) (dC : Nat → ClassId) (dI : Nat → Nat → Nat) (ar : Nat → Nat) (cy : Nat → ClassId) (sz : Nat) (hN : MN ar) (st : Nat → Nat → Int32) (sl : Nat → Nat → Int64) (va : Nat) (ga gb : Nat) (hva : va < 196) (hI : MI st) (hT : TS st ga gb) : Met l yX12_readOfAll wsX12_readOfAll ({ frames := 5, cells := 0, slots := 0, locals := 111 }) (va_Pc [.ref (ar 0), .int (nI va)] (mPre dC dI ar cy sz st sl)) (va_Qi (fun (r : Int32) (x : MT) => MG [1, 2, 3, 6, 7, 8, 9, 10, 11, 12, 14, 15, 19, 20, 21, 22] st x.1 ∧ LQ [7, 9] sl x.2 ∧ ((∃ g : Nat, r = 1 ∧ TS x.1 g gb ∧ ga ≤ g ∧ (x.1 0 7 = 4 → ga < g) ∧ lineOK (x.1 14) va ∧ (∀ j, j < va → x.1 14 j = st 14 j)) ∨ (r = 0))) (mB dC dI ar cy) (MA ar sz)) 0 0 (MA ar sz) := by
  refine Met.ofW (cc := cX12_readOfAll) (maxL := 4) (ret := (some .boolean)) (by decide) rfl ?_
  intro p e s m args below meth c s₁ B hml hv
  obtain ⟨rfl, hsz, hP, hK⟩ := hv
  have hx := B.exec
  have hb := B.bytes
  have hr := B.returns
  have hts := atoms_spec (ws := wsX12_readOfAll) B.pre
  have hown : s.vm.findClass RX12 = some m.cls := findClass_of_methodNamed B.named
  subst hsz
  have hS : va_S (MA ar s.heap.size) s.heap s.heap [] := va_S.rf
  have hG : MG [1, 2, 3, 6, 7, 8, 9, 10, 11, 12, 14, 15, 19, 20, 21, 22] st st := MG.rf hI
  have hl := lv_entry ([.ref (ar 0), .int (nI va)]) (n := 4) (Nat.le_of_ble_eq_true rfl)
  rw [lg_entry_eq]
  generalize (lg_sl ([.ref (ar 0), .int (nI va)]) ++ List.replicate (4 - (lg_sl ([.ref (ar 0), .int (nI va)])).length) Slot.unset).toArray = ls at hl ⊢
  have hl : lv_has ls 4 [(0, .ref (ar 0)), (1, .int (nI va))] := hl
  clear hI
  have hL : LQ [7, 9] sl sl := LQ.rf
  have hTc := hT.2.2.1
  have hTd := hT.2.2.2
  have hga : ga ≤ ga := Nat.le_refl ga
  refine lv_aload_n hx hb dX12_readOfAll_0 rfl (lv_at hl 0 rfl) ?_
  refine lv_bipush (v := 6) hx hb dX12_readOfAll_1 (by decide) ?_
  refine va_calli (va_runV (As := [.int 6]) (rest := []) ⟨hx, hb, hml, hown, hts⟩ (m_isWord l dC dI ar cy _ hN st sl 6  hG.1) (cwV 1 hts gX12_readOfAll_X12_isWord rfl rfl rfl (by decide +kernel) ⟨Nat.le_of_ble_eq_true rfl, Nat.le_of_ble_eq_true rfl⟩) ⟨fun a U g mk q => ⟨q.1, mPre.blind q.2⟩, va_recv hK hP (ci := 11) (q0 := 0) rfl rfl, fun U hU hW => ⟨rfl, mPre.of hP hK hU hW⟩⟩ rfl rfl hl.1 rfl (lv_room (Nat.le_of_ble_eq_true rfl)) dX12_readOfAll_3 ⟨Nat.le_of_ble_eq_true rfl, Nat.le_of_ble_eq_true rfl⟩) hS (fun q _ h => MA.le hS.1 q h) (MA.le hS.1) (fun r1 x t H locs ht hvm hw hB _ _ hS => ?_)
  have hP := mB.at ht hB
  clear hB ht hvm
  obtain ⟨rfl, hw⟩ := hw
  have hP : va_P (dC, dI) vwCl (mw ar cy st sl) _ := hP
  rcases hw with rfl | rfl
  · refine lv_istore_n (lv' := [(2, .int 1), (0, .ref (ar 0)), (1, .int (nI va))]) hx hb dX12_readOfAll_6 rfl hl (by decide) rfl (fun ls hl => ?_)
    refine lv_iload_n hx hb dX12_readOfAll_7 rfl (lv_at hl 0 rfl) ?_
    refine lv_if_ne (tgt := 20) hx hb dX12_readOfAll_8 (by decide) (fun _ => ?_) (fun cc => absurd cc (by decide))
    refine lv_aload_n hx hb dX12_readOfAll_20 rfl (lv_at hl 1 rfl) ?_
    refine va_get (D := (dC, dI)) (ci := 11) (v := .ref (ar 14)) (C := RX12) (T := TX12) (N := 47) hx hb hts ii_X12_readOfAll hown hK hP 0 rfl rfl 38 (by decide) (hts _ mm_X12_readOfAll_1) (fun _ hh => hh) rfl dX12_readOfAll_21 ?_
    refine lv_iload_n hx hb dX12_readOfAll_24 rfl (lv_at hl 2 rfl) ?_
    refine lv_iload_n hx hb dX12_readOfAll_25 rfl (lv_at hl 0 rfl) ?_
    refine lv_if_eq (tgt := 33) hx hb dX12_readOfAll_26 (by decide) (fun cc => absurd cc (by decide)) (fun _ => ?_)
    refine lv_iconst (v := 0) hx hb dX12_readOfAll_29 (by decide) ?_
    refine lv_goto (tgt := 34) hx hb dX12_readOfAll_30 (by decide) ?_
    refine va_iast hx hb hK hP (mD hN _ _ _ _) hS 14 13 rfl rfl (i := (nI va)) (vp_in_nI (by omega) (by decide)) dX12_readOfAll_34 (fun H locs hP _ hS => ?_)
    rw [nI_clamp (by omega)] at hP
    have hP : va_P (dC, dI) vwCl (mw ar cy (up2 st 14 va 0) sl) H := hP
    obtain ⟨st2, est2⟩ : ∃ y, y = up2 st 14 va 0 := ⟨_, rfl⟩
    have hG : MG [1, 2, 3, 6, 7, 8, 9, 10, 11, 12, 14, 15, 19, 20, 21, 22] st st2 := by rw [est2]; exact hG.up (rz (mr_14_0_196 va (by omega) (by omega))) (pn (pcl_14_0_196 va (by omega) (by omega)) (by decide))
    rw [← est2] at hP
    refine lv_aload_n hx hb dX12_readOfAll_35 rfl (lv_at hl 1 rfl) ?_
    refine va_callv (va_runV (As := []) (rest := []) ⟨hx, hb, hml, hown, hts⟩ (m_go l dC dI ar cy _ hN st2 sl ga gb  hG.1 ((⟨by rw [est2, up2_ne (r := 14) (k := va) (a := 0) (j := 5) _ _ (by omega), hT.1], by rw [est2, up2_ne (r := 14) (k := va) (a := 0) (j := 3) _ _ (by omega), hT.2.1], by omega, by omega⟩ : TS st2 ga gb))) (cwV 0 hts gX12_readOfAll_X12_go rfl rfl rfl (by decide +kernel) ⟨Nat.le_of_ble_eq_true rfl, Nat.le_of_ble_eq_true rfl⟩) ⟨fun a U g mk q => ⟨q.1, mPre.blind q.2⟩, va_recv hK hP (ci := 11) (q0 := 0) rfl rfl, fun U hU hW => ⟨rfl, mPre.of hP hK hU hW⟩⟩ rfl rfl hl.1 rfl (lv_room (Nat.le_of_ble_eq_true rfl)) dX12_readOfAll_36 ⟨Nat.le_of_ble_eq_true rfl, Nat.le_of_ble_eq_true rfl⟩) hS (fun q _ h => MA.le hS.1 q h) (MA.le hS.1) (fun x t H locs ht hvm hw hB _ _ hS => ?_)
    have hP := mB.at ht hB
    clear hB ht hvm
    obtain ⟨st4, sl5⟩ := x
    obtain ⟨hG2, hL2, hw⟩ := hw
    have hL : LQ [7, 9] sl sl5 := hL.tr hL2 (by decide)
    clear hL2
    dsimp only at hw
    have hP : va_P (dC, dI) vwCl (mw ar cy st4 sl5) _ := hP
    have hG : MG [1, 2, 3, 6, 7, 8, 9, 10, 11, 12, 14, 15, 19, 20, 21, 22] st st4 := hG.tr hG2 (by decide)
    have hGst4 : MG [1, 2, 3, 6, 7, 8, 9, 10, 11, 12, 13, 14, 15, 16, 19, 20, 21, 22, 23] st2 st4 := hG2
    clear hG2
    obtain ⟨n6, hf7, hf8, hf9⟩ := hw
    have hf7c := hf7.2.2.1
    have hf7d := hf7.2.2.2
    refine lv_aload_n hx hb dX12_readOfAll_39 rfl (lv_at hl 1 rfl) ?_
    refine lv_iload_n hx hb dX12_readOfAll_40 rfl (lv_at hl 2 rfl) ?_
    refine lv_iconst (v := 1) hx hb dX12_readOfAll_41 (by decide) ?_
    refine lv_iadd hx hb dX12_readOfAll_42 ?_
    refine zz_top (v := nI (va + 1)) (nI_add va 1) ?_
    refine lv_aload_n hx hb dX12_readOfAll_43 rfl (lv_at hl 1 rfl) ?_
    refine va_calli (va_runV (As := []) (rest := [.int (nI (va + 1)), .ref (ar 0)]) ⟨hx, hb, hml, hown, hts⟩ (m_readPlaceName l dC dI ar cy _ hN st4 sl5 n6 gb  hG.1 ((⟨by rw [hf7.1], by rw [hf7.2.1], by omega, by omega⟩ : TS st4 n6 gb))) (cwV 0 hts gX12_readOfAll_X12_readPlaceName rfl rfl rfl (by decide +kernel) ⟨Nat.le_of_ble_eq_true rfl, Nat.le_of_ble_eq_true rfl⟩) ⟨fun a U g mk q => ⟨q.1, mPre.blind q.2⟩, va_recv hK hP (ci := 11) (q0 := 0) rfl rfl, fun U hU hW => ⟨rfl, mPre.of hP hK hU hW⟩⟩ rfl rfl hl.1 rfl (lv_room (Nat.le_of_ble_eq_true rfl)) dX12_readOfAll_44 ⟨Nat.le_of_ble_eq_true rfl, Nat.le_of_ble_eq_true rfl⟩) hS (fun q _ h => MA.le hS.1 q h) (MA.le hS.1) (fun r10 x t H locs ht hvm hw hB _ _ hS => ?_)
    have hP := mB.at ht hB
    clear hB ht hvm
    obtain ⟨st11, sl12⟩ := x
    obtain ⟨hG2, hL2, hw⟩ := hw
    have hL : LQ [7, 9] sl sl12 := hL.tr hL2 (by decide)
    clear hL2
    dsimp only at hw
    have hP : va_P (dC, dI) vwCl (mw ar cy st11 sl12) _ := hP
    have hG : MG [1, 2, 3, 6, 7, 8, 9, 10, 11, 12, 14, 15, 19, 20, 21, 22] st st11 := hG.tr hG2 (by decide)
    have hGst11 : MG [1, 2, 3, 6, 7, 8, 9, 10, 11, 12, 13, 14, 15, 19, 20, 21, 22] st4 st11 := hG2
    clear hG2
    rcases hw with ⟨n13, n14, rfl, hf15, hf16, hf17, hf18, hf19⟩ | rfl
    · have hf15c := hf15.2.2.1
      have hf15d := hf15.2.2.2
      refine va_calli (va_runV (As := [.int (nI (va + 1)), .int 1]) (rest := []) ⟨hx, hb, hml, hown, hts⟩ (m_keep1 l dC dI ar cy _ hN st11 sl12 (va + 1) (by omega) hG.1) (cwV 2 hts gX12_readOfAll_X12_keep rfl rfl rfl (by decide +kernel) ⟨Nat.le_of_ble_eq_true rfl, Nat.le_of_ble_eq_true rfl⟩) ⟨fun a U g mk q => ⟨q.1, mPre.blind q.2⟩, va_recv hK hP (ci := 11) (q0 := 0) rfl rfl, fun U hU hW => ⟨rfl, mPre.of hP hK hU hW⟩⟩ rfl rfl hl.1 rfl (lv_room (Nat.le_of_ble_eq_true rfl)) dX12_readOfAll_47 ⟨Nat.le_of_ble_eq_true rfl, Nat.le_of_ble_eq_true rfl⟩) hS (fun q _ h => MA.le hS.1 q h) (MA.le hS.1) (fun r20 x t H locs ht hvm hw hB _ _ hS => ?_)
      have hP := mB.at ht hB
      clear hB ht hvm
      obtain ⟨st21, sl22⟩ := x
      obtain ⟨hG2, hL2, hw⟩ := hw
      have hL : LQ [7, 9] sl sl22 := hL.tr hL2 (by decide)
      clear hL2
      dsimp only at hw
      have hP : va_P (dC, dI) vwCl (mw ar cy st21 sl22) _ := hP
      have hG : MG [1, 2, 3, 6, 7, 8, 9, 10, 11, 12, 14, 15, 19, 20, 21, 22] st st21 := hG.tr hG2 (by decide)
      have hGst21 : MG [1, 2, 3, 4, 5, 6, 7, 8, 9, 10, 11, 12, 14, 15, 16, 17, 19, 20, 21, 22, 23] st11 st21 := hG2
      clear hG2
      obtain ⟨rfl, hf23⟩ := hw
      rw [show st11 0 13 = (nI n14) by rw [hf18]] at hf23
      refine lv_if_eq (tgt := 67) hx hb dX12_readOfAll_50 (by decide) (fun cc => absurd cc (by decide)) (fun _ => ?_)
      refine lv_aload_n hx hb dX12_readOfAll_53 rfl (lv_at hl 1 rfl) ?_
      refine lv_iload_n hx hb dX12_readOfAll_54 rfl (lv_at hl 2 rfl) ?_
      refine lv_iconst (v := 3) hx hb dX12_readOfAll_55 (by decide) ?_
      refine lv_iadd hx hb dX12_readOfAll_56 ?_
      refine zz_top (v := nI (va + 3)) (nI_add va 3) ?_
      refine va_calli (va_runV (As := [.int (nI (va + 3))]) (rest := []) ⟨hx, hb, hml, hown, hts⟩ (m_readHours l dC dI ar cy _ hN st21 sl22 (va + 3) n13 gb (by omega) hG.1 ((⟨by rw [hf23, up2_ne (r := 14) (k := (va + 1)) (a := 0) (j := 5) _ _ (by omega), hf15.1], by rw [hf23, up2_ne (r := 14) (k := (va + 1)) (a := 0) (j := 3) _ _ (by omega), hf15.2.1], by omega, by omega⟩ : TS st21 n13 gb))) (cwV 1 hts gX12_readOfAll_X12_readHours rfl rfl rfl (by decide +kernel) ⟨Nat.le_of_ble_eq_true rfl, Nat.le_of_ble_eq_true rfl⟩) ⟨fun a U g mk q => ⟨q.1, mPre.blind q.2⟩, va_recv hK hP (ci := 11) (q0 := 0) rfl rfl, fun U hU hW => ⟨rfl, mPre.of hP hK hU hW⟩⟩ rfl rfl hl.1 rfl (lv_room (Nat.le_of_ble_eq_true rfl)) dX12_readOfAll_57 ⟨Nat.le_of_ble_eq_true rfl, Nat.le_of_ble_eq_true rfl⟩) hS (fun q _ h => MA.le hS.1 q h) (MA.le hS.1) (fun r24 x t H locs ht hvm hw hB _ _ hS => ?_)
      have hP := mB.at ht hB
      clear hB ht hvm
      obtain ⟨st25, sl26⟩ := x
      obtain ⟨hG2, hL2, hw⟩ := hw
      have hL : LQ [7, 9] sl sl26 := hL.tr hL2 (by decide)
      clear hL2
      dsimp only at hw
      have hP : va_P (dC, dI) vwCl (mw ar cy st25 sl26) _ := hP
      have hG : MG [1, 2, 3, 6, 7, 8, 9, 10, 11, 12, 14, 15, 19, 20, 21, 22] st st25 := hG.tr hG2 (by decide)
      have hGst25 : MG [1, 2, 3, 6, 7, 8, 9, 10, 11, 12, 14, 15, 19, 20, 21, 22] st21 st25 := hG2
      clear hG2
      rcases hw with ⟨n27, n28, n29, rfl, hf30, hf31, hf32, hf33, hf34, hf35, hf36, hf37⟩ | rfl
      · have hf30c := hf30.2.2.1
        have hf30d := hf30.2.2.2
        refine lv_if_eq (tgt := 67) hx hb dX12_readOfAll_60 (by decide) (fun cc => absurd cc (by decide)) (fun _ => ?_)
        refine lv_iconst (v := 1) hx hb dX12_readOfAll_63 (by decide) ?_
        refine lv_goto (tgt := 68) hx hb dX12_readOfAll_64 (by decide) ?_
        exact W.zret (v := 1) hx hb hr rfl (fun t ht hW => ⟨⟨1, (st25, sl26), rfl, ⟨hG, hL, Or.inl (⟨n27, rfl, (show TS st25 n27 gb from ⟨by rw [hf30.1], by rw [hf30.2.1], by omega, by omega⟩), by omega, fun (hh : st25 0 7 = 4) => by have hk := hf32 (by exact hh); omega, Or.inl (⟨(show st25 14 va = 0 by rw [hf37 va (by omega), hf23, up2_ne (r := 14) (k := (va + 1)) (a := 14) (j := va) _ _ (by omega), hGst11.2 14 va (show (13 : Nat) ∈ _ by decide), hGst4.2 14 va (show (13 : Nat) ∈ _ by decide), est2, up2_same]), ⟨n14, by omega, by show st25 14 (va + 1) = _; rw [hf37 (va + 1) (by omega), hf23, up2_same]⟩, n28, n29, by omega, by omega, by show st25 14 (va + 3) = _; rw [hf33], by show st25 14 (va + 4) = _; rw [hf34]⟩), fun jj hk => by show st25 14 jj = st 14 jj; rw [hf37 jj (by omega), hf23, up2_ne (r := 14) (k := (va + 1)) (a := 14) (j := jj) _ _ (by omega), hGst11.2 14 jj (show (13 : Nat) ∈ _ by decide), hGst4.2 14 jj (show (13 : Nat) ∈ _ by decide), est2, up2_ne (r := 14) (k := va) (a := 14) (j := jj) _ _ (by omega)]⟩)⟩, mB.of ht hP⟩, hS.F ht⟩) hS.2.2 dX12_readOfAll_68
      · refine lv_if_eq (tgt := 67) hx hb dX12_readOfAll_60 (by decide) (fun _ => ?_) (fun cc => absurd (by decide) cc)
        refine lv_iconst (v := 0) hx hb dX12_readOfAll_67 (by decide) ?_
        exact W.zret (v := 0) hx hb hr rfl (fun t ht hW => ⟨⟨0, (st25, sl26), rfl, ⟨hG, hL, Or.inr (rfl)⟩, mB.of ht hP⟩, hS.F ht⟩) hS.2.2 dX12_readOfAll_68
    · refine va_calli (va_runV (As := [.int (nI (va + 1)), .int 0]) (rest := []) ⟨hx, hb, hml, hown, hts⟩ (m_keep0 l dC dI ar cy _ hN st11 sl12 (nI (va + 1))  hG.1) (cwV 2 hts gX12_readOfAll_X12_keep rfl rfl rfl (by decide +kernel) ⟨Nat.le_of_ble_eq_true rfl, Nat.le_of_ble_eq_true rfl⟩) ⟨fun a U g mk q => ⟨q.1, mPre.blind q.2⟩, va_recv hK hP (ci := 11) (q0 := 0) rfl rfl, fun U hU hW => ⟨rfl, mPre.of hP hK hU hW⟩⟩ rfl rfl hl.1 rfl (lv_room (Nat.le_of_ble_eq_true rfl)) dX12_readOfAll_47 ⟨Nat.le_of_ble_eq_true rfl, Nat.le_of_ble_eq_true rfl⟩) hS (fun q _ h => MA.le hS.1 q h) (MA.le hS.1) (fun r38 x t H locs ht hvm hw hB _ _ hS => ?_)
      have hP := mB.at ht hB
      clear hB ht hvm
      obtain ⟨rfl, hw⟩ := hw
      have hP : va_P (dC, dI) vwCl (mw ar cy st11 sl12) _ := hP
      obtain rfl := hw
      refine lv_if_eq (tgt := 67) hx hb dX12_readOfAll_50 (by decide) (fun _ => ?_) (fun cc => absurd (by decide) cc)
      refine lv_iconst (v := 0) hx hb dX12_readOfAll_67 (by decide) ?_
      exact W.zret (v := 0) hx hb hr rfl (fun t ht hW => ⟨⟨0, (st11, sl12), rfl, ⟨hG, hL, Or.inr (rfl)⟩, mB.of ht hP⟩, hS.F ht⟩) hS.2.2 dX12_readOfAll_68
  · refine lv_istore_n (lv' := [(2, .int 0), (0, .ref (ar 0)), (1, .int (nI va))]) hx hb dX12_readOfAll_6 rfl hl (by decide) rfl (fun ls hl => ?_)
    refine lv_iload_n hx hb dX12_readOfAll_7 rfl (lv_at hl 0 rfl) ?_
    refine lv_if_ne (tgt := 20) hx hb dX12_readOfAll_8 (by decide) (fun cc => absurd (by decide) cc) (fun _ => ?_)
    refine lv_aload_n hx hb dX12_readOfAll_11 rfl (lv_at hl 1 rfl) ?_
    refine lv_bipush (v := 7) hx hb dX12_readOfAll_12 (by decide) ?_
    refine va_calli (va_runV (As := [.int 7]) (rest := []) ⟨hx, hb, hml, hown, hts⟩ (m_isWord l dC dI ar cy _ hN st sl 7  hG.1) (cwV 1 hts gX12_readOfAll_X12_isWord rfl rfl rfl (by decide +kernel) ⟨Nat.le_of_ble_eq_true rfl, Nat.le_of_ble_eq_true rfl⟩) ⟨fun a U g mk q => ⟨q.1, mPre.blind q.2⟩, va_recv hK hP (ci := 11) (q0 := 0) rfl rfl, fun U hU hW => ⟨rfl, mPre.of hP hK hU hW⟩⟩ rfl rfl hl.1 rfl (lv_room (Nat.le_of_ble_eq_true rfl)) dX12_readOfAll_14 ⟨Nat.le_of_ble_eq_true rfl, Nat.le_of_ble_eq_true rfl⟩) hS (fun q _ h => MA.le hS.1 q h) (MA.le hS.1) (fun r39 x t H locs ht hvm hw hB _ _ hS => ?_)
    have hP := mB.at ht hB
    clear hB ht hvm
    obtain ⟨rfl, hw⟩ := hw
    have hP : va_P (dC, dI) vwCl (mw ar cy st sl) _ := hP
    rcases hw with rfl | rfl
    · refine lv_if_eq (tgt := 69) hx hb dX12_readOfAll_17 (by decide) (fun cc => absurd cc (by decide)) (fun _ => ?_)
      refine lv_aload_n hx hb dX12_readOfAll_20 rfl (lv_at hl 1 rfl) ?_
      refine va_get (D := (dC, dI)) (ci := 11) (v := .ref (ar 14)) (C := RX12) (T := TX12) (N := 47) hx hb hts ii_X12_readOfAll hown hK hP 0 rfl rfl 38 (by decide) (hts _ mm_X12_readOfAll_1) (fun _ hh => hh) rfl dX12_readOfAll_21 ?_
      refine lv_iload_n hx hb dX12_readOfAll_24 rfl (lv_at hl 2 rfl) ?_
      refine lv_iload_n hx hb dX12_readOfAll_25 rfl (lv_at hl 0 rfl) ?_
      refine lv_if_eq (tgt := 33) hx hb dX12_readOfAll_26 (by decide) (fun _ => ?_) (fun cc => absurd (by decide) cc)
      refine lv_iconst (v := 1) hx hb dX12_readOfAll_33 (by decide) ?_
      refine va_iast hx hb hK hP (mD hN _ _ _ _) hS 14 13 rfl rfl (i := (nI va)) (vp_in_nI (by omega) (by decide)) dX12_readOfAll_34 (fun H locs hP _ hS => ?_)
      rw [nI_clamp (by omega)] at hP
      have hP : va_P (dC, dI) vwCl (mw ar cy (up2 st 14 va 1) sl) H := hP
      obtain ⟨st40, est40⟩ : ∃ y, y = up2 st 14 va 1 := ⟨_, rfl⟩
      have hG : MG [1, 2, 3, 6, 7, 8, 9, 10, 11, 12, 14, 15, 19, 20, 21, 22] st st40 := by rw [est40]; exact hG.up (rz (mr_14_0_196 va (by omega) (by omega))) (pn (pcl_14_0_196 va (by omega) (by omega)) (by decide))
      rw [← est40] at hP
      refine lv_aload_n hx hb dX12_readOfAll_35 rfl (lv_at hl 1 rfl) ?_
      refine va_callv (va_runV (As := []) (rest := []) ⟨hx, hb, hml, hown, hts⟩ (m_go l dC dI ar cy _ hN st40 sl ga gb  hG.1 ((⟨by rw [est40, up2_ne (r := 14) (k := va) (a := 0) (j := 5) _ _ (by omega), hT.1], by rw [est40, up2_ne (r := 14) (k := va) (a := 0) (j := 3) _ _ (by omega), hT.2.1], by omega, by omega⟩ : TS st40 ga gb))) (cwV 0 hts gX12_readOfAll_X12_go rfl rfl rfl (by decide +kernel) ⟨Nat.le_of_ble_eq_true rfl, Nat.le_of_ble_eq_true rfl⟩) ⟨fun a U g mk q => ⟨q.1, mPre.blind q.2⟩, va_recv hK hP (ci := 11) (q0 := 0) rfl rfl, fun U hU hW => ⟨rfl, mPre.of hP hK hU hW⟩⟩ rfl rfl hl.1 rfl (lv_room (Nat.le_of_ble_eq_true rfl)) dX12_readOfAll_36 ⟨Nat.le_of_ble_eq_true rfl, Nat.le_of_ble_eq_true rfl⟩) hS (fun q _ h => MA.le hS.1 q h) (MA.le hS.1) (fun x t H locs ht hvm hw hB _ _ hS => ?_)
      have hP := mB.at ht hB
      clear hB ht hvm
      obtain ⟨st42, sl43⟩ := x
      obtain ⟨hG2, hL2, hw⟩ := hw
      have hL : LQ [7, 9] sl sl43 := hL.tr hL2 (by decide)
      clear hL2
      dsimp only at hw
      have hP : va_P (dC, dI) vwCl (mw ar cy st42 sl43) _ := hP
      have hG : MG [1, 2, 3, 6, 7, 8, 9, 10, 11, 12, 14, 15, 19, 20, 21, 22] st st42 := hG.tr hG2 (by decide)
      have hGst42 : MG [1, 2, 3, 6, 7, 8, 9, 10, 11, 12, 13, 14, 15, 16, 19, 20, 21, 22, 23] st40 st42 := hG2
      clear hG2
      obtain ⟨n44, hf45, hf46, hf47⟩ := hw
      have hf45c := hf45.2.2.1
      have hf45d := hf45.2.2.2
      refine lv_aload_n hx hb dX12_readOfAll_39 rfl (lv_at hl 1 rfl) ?_
      refine lv_iload_n hx hb dX12_readOfAll_40 rfl (lv_at hl 2 rfl) ?_
      refine lv_iconst (v := 1) hx hb dX12_readOfAll_41 (by decide) ?_
      refine lv_iadd hx hb dX12_readOfAll_42 ?_
      refine zz_top (v := nI (va + 1)) (nI_add va 1) ?_
      refine lv_aload_n hx hb dX12_readOfAll_43 rfl (lv_at hl 1 rfl) ?_
      refine va_calli (va_runV (As := []) (rest := [.int (nI (va + 1)), .ref (ar 0)]) ⟨hx, hb, hml, hown, hts⟩ (m_readPlaceName l dC dI ar cy _ hN st42 sl43 n44 gb  hG.1 ((⟨by rw [hf45.1], by rw [hf45.2.1], by omega, by omega⟩ : TS st42 n44 gb))) (cwV 0 hts gX12_readOfAll_X12_readPlaceName rfl rfl rfl (by decide +kernel) ⟨Nat.le_of_ble_eq_true rfl, Nat.le_of_ble_eq_true rfl⟩) ⟨fun a U g mk q => ⟨q.1, mPre.blind q.2⟩, va_recv hK hP (ci := 11) (q0 := 0) rfl rfl, fun U hU hW => ⟨rfl, mPre.of hP hK hU hW⟩⟩ rfl rfl hl.1 rfl (lv_room (Nat.le_of_ble_eq_true rfl)) dX12_readOfAll_44 ⟨Nat.le_of_ble_eq_true rfl, Nat.le_of_ble_eq_true rfl⟩) hS (fun q _ h => MA.le hS.1 q h) (MA.le hS.1) (fun r48 x t H locs ht hvm hw hB _ _ hS => ?_)
      have hP := mB.at ht hB
      clear hB ht hvm
      obtain ⟨st49, sl50⟩ := x
      obtain ⟨hG2, hL2, hw⟩ := hw
      have hL : LQ [7, 9] sl sl50 := hL.tr hL2 (by decide)
      clear hL2
      dsimp only at hw
      have hP : va_P (dC, dI) vwCl (mw ar cy st49 sl50) _ := hP
      have hG : MG [1, 2, 3, 6, 7, 8, 9, 10, 11, 12, 14, 15, 19, 20, 21, 22] st st49 := hG.tr hG2 (by decide)
      have hGst49 : MG [1, 2, 3, 6, 7, 8, 9, 10, 11, 12, 13, 14, 15, 19, 20, 21, 22] st42 st49 := hG2
      clear hG2
      rcases hw with ⟨n51, n52, rfl, hf53, hf54, hf55, hf56, hf57⟩ | rfl
      · have hf53c := hf53.2.2.1
        have hf53d := hf53.2.2.2
        refine va_calli (va_runV (As := [.int (nI (va + 1)), .int 1]) (rest := []) ⟨hx, hb, hml, hown, hts⟩ (m_keep1 l dC dI ar cy _ hN st49 sl50 (va + 1) (by omega) hG.1) (cwV 2 hts gX12_readOfAll_X12_keep rfl rfl rfl (by decide +kernel) ⟨Nat.le_of_ble_eq_true rfl, Nat.le_of_ble_eq_true rfl⟩) ⟨fun a U g mk q => ⟨q.1, mPre.blind q.2⟩, va_recv hK hP (ci := 11) (q0 := 0) rfl rfl, fun U hU hW => ⟨rfl, mPre.of hP hK hU hW⟩⟩ rfl rfl hl.1 rfl (lv_room (Nat.le_of_ble_eq_true rfl)) dX12_readOfAll_47 ⟨Nat.le_of_ble_eq_true rfl, Nat.le_of_ble_eq_true rfl⟩) hS (fun q _ h => MA.le hS.1 q h) (MA.le hS.1) (fun r58 x t H locs ht hvm hw hB _ _ hS => ?_)
        have hP := mB.at ht hB
        clear hB ht hvm
        obtain ⟨st59, sl60⟩ := x
        obtain ⟨hG2, hL2, hw⟩ := hw
        have hL : LQ [7, 9] sl sl60 := hL.tr hL2 (by decide)
        clear hL2
        dsimp only at hw
        have hP : va_P (dC, dI) vwCl (mw ar cy st59 sl60) _ := hP
        have hG : MG [1, 2, 3, 6, 7, 8, 9, 10, 11, 12, 14, 15, 19, 20, 21, 22] st st59 := hG.tr hG2 (by decide)
        have hGst59 : MG [1, 2, 3, 4, 5, 6, 7, 8, 9, 10, 11, 12, 14, 15, 16, 17, 19, 20, 21, 22, 23] st49 st59 := hG2
        clear hG2
        obtain ⟨rfl, hf61⟩ := hw
        rw [show st49 0 13 = (nI n52) by rw [hf56]] at hf61
        refine lv_if_eq (tgt := 67) hx hb dX12_readOfAll_50 (by decide) (fun cc => absurd cc (by decide)) (fun _ => ?_)
        refine lv_aload_n hx hb dX12_readOfAll_53 rfl (lv_at hl 1 rfl) ?_
        refine lv_iload_n hx hb dX12_readOfAll_54 rfl (lv_at hl 2 rfl) ?_
        refine lv_iconst (v := 3) hx hb dX12_readOfAll_55 (by decide) ?_
        refine lv_iadd hx hb dX12_readOfAll_56 ?_
        refine zz_top (v := nI (va + 3)) (nI_add va 3) ?_
        refine va_calli (va_runV (As := [.int (nI (va + 3))]) (rest := []) ⟨hx, hb, hml, hown, hts⟩ (m_readHours l dC dI ar cy _ hN st59 sl60 (va + 3) n51 gb (by omega) hG.1 ((⟨by rw [hf61, up2_ne (r := 14) (k := (va + 1)) (a := 0) (j := 5) _ _ (by omega), hf53.1], by rw [hf61, up2_ne (r := 14) (k := (va + 1)) (a := 0) (j := 3) _ _ (by omega), hf53.2.1], by omega, by omega⟩ : TS st59 n51 gb))) (cwV 1 hts gX12_readOfAll_X12_readHours rfl rfl rfl (by decide +kernel) ⟨Nat.le_of_ble_eq_true rfl, Nat.le_of_ble_eq_true rfl⟩) ⟨fun a U g mk q => ⟨q.1, mPre.blind q.2⟩, va_recv hK hP (ci := 11) (q0 := 0) rfl rfl, fun U hU hW => ⟨rfl, mPre.of hP hK hU hW⟩⟩ rfl rfl hl.1 rfl (lv_room (Nat.le_of_ble_eq_true rfl)) dX12_readOfAll_57 ⟨Nat.le_of_ble_eq_true rfl, Nat.le_of_ble_eq_true rfl⟩) hS (fun q _ h => MA.le hS.1 q h) (MA.le hS.1) (fun r62 x t H locs ht hvm hw hB _ _ hS => ?_)
        have hP := mB.at ht hB
        clear hB ht hvm
        obtain ⟨st63, sl64⟩ := x
        obtain ⟨hG2, hL2, hw⟩ := hw
        have hL : LQ [7, 9] sl sl64 := hL.tr hL2 (by decide)
        clear hL2
        dsimp only at hw
        have hP : va_P (dC, dI) vwCl (mw ar cy st63 sl64) _ := hP
        have hG : MG [1, 2, 3, 6, 7, 8, 9, 10, 11, 12, 14, 15, 19, 20, 21, 22] st st63 := hG.tr hG2 (by decide)
        have hGst63 : MG [1, 2, 3, 6, 7, 8, 9, 10, 11, 12, 14, 15, 19, 20, 21, 22] st59 st63 := hG2
        clear hG2
        rcases hw with ⟨n65, n66, n67, rfl, hf68, hf69, hf70, hf71, hf72, hf73, hf74, hf75⟩ | rfl
        · have hf68c := hf68.2.2.1
          have hf68d := hf68.2.2.2
          refine lv_if_eq (tgt := 67) hx hb dX12_readOfAll_60 (by decide) (fun cc => absurd cc (by decide)) (fun _ => ?_)
          refine lv_iconst (v := 1) hx hb dX12_readOfAll_63 (by decide) ?_
          refine lv_goto (tgt := 68) hx hb dX12_readOfAll_64 (by decide) ?_
          exact W.zret (v := 1) hx hb hr rfl (fun t ht hW => ⟨⟨1, (st63, sl64), rfl, ⟨hG, hL, Or.inl (⟨n65, rfl, (show TS st63 n65 gb from ⟨by rw [hf68.1], by rw [hf68.2.1], by omega, by omega⟩), by omega, fun (hh : st63 0 7 = 4) => by have hk := hf70 (by exact hh); omega, Or.inr (Or.inl (⟨(show st63 14 va = 1 by rw [hf75 va (by omega), hf61, up2_ne (r := 14) (k := (va + 1)) (a := 14) (j := va) _ _ (by omega), hGst49.2 14 va (show (13 : Nat) ∈ _ by decide), hGst42.2 14 va (show (13 : Nat) ∈ _ by decide), est40, up2_same]), n52, by omega, by show st63 14 (va + 1) = _; rw [hf75 (va + 1) (by omega), hf61, up2_same]⟩)), fun jj hk => by show st63 14 jj = st 14 jj; rw [hf75 jj (by omega), hf61, up2_ne (r := 14) (k := (va + 1)) (a := 14) (j := jj) _ _ (by omega), hGst49.2 14 jj (show (13 : Nat) ∈ _ by decide), hGst42.2 14 jj (show (13 : Nat) ∈ _ by decide), est40, up2_ne (r := 14) (k := va) (a := 14) (j := jj) _ _ (by omega)]⟩)⟩, mB.of ht hP⟩, hS.F ht⟩) hS.2.2 dX12_readOfAll_68
        · refine lv_if_eq (tgt := 67) hx hb dX12_readOfAll_60 (by decide) (fun _ => ?_) (fun cc => absurd (by decide) cc)
          refine lv_iconst (v := 0) hx hb dX12_readOfAll_67 (by decide) ?_
          exact W.zret (v := 0) hx hb hr rfl (fun t ht hW => ⟨⟨0, (st63, sl64), rfl, ⟨hG, hL, Or.inr (rfl)⟩, mB.of ht hP⟩, hS.F ht⟩) hS.2.2 dX12_readOfAll_68
      · refine va_calli (va_runV (As := [.int (nI (va + 1)), .int 0]) (rest := []) ⟨hx, hb, hml, hown, hts⟩ (m_keep0 l dC dI ar cy _ hN st49 sl50 (nI (va + 1))  hG.1) (cwV 2 hts gX12_readOfAll_X12_keep rfl rfl rfl (by decide +kernel) ⟨Nat.le_of_ble_eq_true rfl, Nat.le_of_ble_eq_true rfl⟩) ⟨fun a U g mk q => ⟨q.1, mPre.blind q.2⟩, va_recv hK hP (ci := 11) (q0 := 0) rfl rfl, fun U hU hW => ⟨rfl, mPre.of hP hK hU hW⟩⟩ rfl rfl hl.1 rfl (lv_room (Nat.le_of_ble_eq_true rfl)) dX12_readOfAll_47 ⟨Nat.le_of_ble_eq_true rfl, Nat.le_of_ble_eq_true rfl⟩) hS (fun q _ h => MA.le hS.1 q h) (MA.le hS.1) (fun r76 x t H locs ht hvm hw hB _ _ hS => ?_)
        have hP := mB.at ht hB
        clear hB ht hvm
        obtain ⟨rfl, hw⟩ := hw
        have hP : va_P (dC, dI) vwCl (mw ar cy st49 sl50) _ := hP
        obtain rfl := hw
        refine lv_if_eq (tgt := 67) hx hb dX12_readOfAll_50 (by decide) (fun _ => ?_) (fun cc => absurd (by decide) cc)
        refine lv_iconst (v := 0) hx hb dX12_readOfAll_67 (by decide) ?_
        exact W.zret (v := 0) hx hb hr rfl (fun t ht hW => ⟨⟨0, (st49, sl50), rfl, ⟨hG, hL, Or.inr (rfl)⟩, mB.of ht hP⟩, hS.F ht⟩) hS.2.2 dX12_readOfAll_68
    · refine lv_if_eq (tgt := 69) hx hb dX12_readOfAll_17 (by decide) (fun _ => ?_) (fun cc => absurd (by decide) cc)
      refine lv_aload_n hx hb dX12_readOfAll_69 rfl (lv_at hl 1 rfl) ?_
      refine lv_bipush (v := 8) hx hb dX12_readOfAll_70 (by decide) ?_
      refine va_calli (va_runV (As := [.int 8]) (rest := []) ⟨hx, hb, hml, hown, hts⟩ (m_isWord l dC dI ar cy _ hN st sl 8  hG.1) (cwV 1 hts gX12_readOfAll_X12_isWord rfl rfl rfl (by decide +kernel) ⟨Nat.le_of_ble_eq_true rfl, Nat.le_of_ble_eq_true rfl⟩) ⟨fun a U g mk q => ⟨q.1, mPre.blind q.2⟩, va_recv hK hP (ci := 11) (q0 := 0) rfl rfl, fun U hU hW => ⟨rfl, mPre.of hP hK hU hW⟩⟩ rfl rfl hl.1 rfl (lv_room (Nat.le_of_ble_eq_true rfl)) dX12_readOfAll_72 ⟨Nat.le_of_ble_eq_true rfl, Nat.le_of_ble_eq_true rfl⟩) hS (fun q _ h => MA.le hS.1 q h) (MA.le hS.1) (fun r77 x t H locs ht hvm hw hB _ _ hS => ?_)
      have hP := mB.at ht hB
      clear hB ht hvm
      obtain ⟨rfl, hw⟩ := hw
      have hP : va_P (dC, dI) vwCl (mw ar cy st sl) _ := hP
      rcases hw with rfl | rfl
      · refine lv_if_eq (tgt := 101) hx hb dX12_readOfAll_75 (by decide) (fun cc => absurd cc (by decide)) (fun _ => ?_)
        refine lv_aload_n hx hb dX12_readOfAll_78 rfl (lv_at hl 1 rfl) ?_
        refine va_get (D := (dC, dI)) (ci := 11) (v := .ref (ar 14)) (C := RX12) (T := TX12) (N := 47) hx hb hts ii_X12_readOfAll hown hK hP 0 rfl rfl 38 (by decide) (hts _ mm_X12_readOfAll_1) (fun _ hh => hh) rfl dX12_readOfAll_79 ?_
        refine lv_iload_n hx hb dX12_readOfAll_82 rfl (lv_at hl 2 rfl) ?_
        refine lv_iconst (v := 5) hx hb dX12_readOfAll_83 (by decide) ?_
        refine va_iast hx hb hK hP (mD hN _ _ _ _) hS 14 13 rfl rfl (i := (nI va)) (vp_in_nI (by omega) (by decide)) dX12_readOfAll_84 (fun H locs hP _ hS => ?_)
        rw [nI_clamp (by omega)] at hP
        have hP : va_P (dC, dI) vwCl (mw ar cy (up2 st 14 va 5) sl) H := hP
        obtain ⟨st78, est78⟩ : ∃ y, y = up2 st 14 va 5 := ⟨_, rfl⟩
        have hG : MG [1, 2, 3, 6, 7, 8, 9, 10, 11, 12, 14, 15, 19, 20, 21, 22] st st78 := by rw [est78]; exact hG.up (rz (mr_14_0_196 va (by omega) (by omega))) (pn (pcl_14_0_196 va (by omega) (by omega)) (by decide))
        rw [← est78] at hP
        refine lv_aload_n hx hb dX12_readOfAll_85 rfl (lv_at hl 1 rfl) ?_
        refine va_callv (va_runV (As := []) (rest := []) ⟨hx, hb, hml, hown, hts⟩ (m_go l dC dI ar cy _ hN st78 sl ga gb  hG.1 ((⟨by rw [est78, up2_ne (r := 14) (k := va) (a := 0) (j := 5) _ _ (by omega), hT.1], by rw [est78, up2_ne (r := 14) (k := va) (a := 0) (j := 3) _ _ (by omega), hT.2.1], by omega, by omega⟩ : TS st78 ga gb))) (cwV 0 hts gX12_readOfAll_X12_go rfl rfl rfl (by decide +kernel) ⟨Nat.le_of_ble_eq_true rfl, Nat.le_of_ble_eq_true rfl⟩) ⟨fun a U g mk q => ⟨q.1, mPre.blind q.2⟩, va_recv hK hP (ci := 11) (q0 := 0) rfl rfl, fun U hU hW => ⟨rfl, mPre.of hP hK hU hW⟩⟩ rfl rfl hl.1 rfl (lv_room (Nat.le_of_ble_eq_true rfl)) dX12_readOfAll_86 ⟨Nat.le_of_ble_eq_true rfl, Nat.le_of_ble_eq_true rfl⟩) hS (fun q _ h => MA.le hS.1 q h) (MA.le hS.1) (fun x t H locs ht hvm hw hB _ _ hS => ?_)
        have hP := mB.at ht hB
        clear hB ht hvm
        obtain ⟨st80, sl81⟩ := x
        obtain ⟨hG2, hL2, hw⟩ := hw
        have hL : LQ [7, 9] sl sl81 := hL.tr hL2 (by decide)
        clear hL2
        dsimp only at hw
        have hP : va_P (dC, dI) vwCl (mw ar cy st80 sl81) _ := hP
        have hG : MG [1, 2, 3, 6, 7, 8, 9, 10, 11, 12, 14, 15, 19, 20, 21, 22] st st80 := hG.tr hG2 (by decide)
        have hGst80 : MG [1, 2, 3, 6, 7, 8, 9, 10, 11, 12, 13, 14, 15, 16, 19, 20, 21, 22, 23] st78 st80 := hG2
        clear hG2
        obtain ⟨n82, hf83, hf84, hf85⟩ := hw
        have hf83c := hf83.2.2.1
        have hf83d := hf83.2.2.2
        refine lv_aload_n hx hb dX12_readOfAll_89 rfl (lv_at hl 1 rfl) ?_
        refine lv_iload_n hx hb dX12_readOfAll_90 rfl (lv_at hl 2 rfl) ?_
        refine lv_iconst (v := 1) hx hb dX12_readOfAll_91 (by decide) ?_
        refine lv_iadd hx hb dX12_readOfAll_92 ?_
        refine zz_top (v := nI (va + 1)) (nI_add va 1) ?_
        refine lv_aload_n hx hb dX12_readOfAll_93 rfl (lv_at hl 1 rfl) ?_
        refine va_calli (va_runV (As := []) (rest := [.int (nI (va + 1)), .ref (ar 0)]) ⟨hx, hb, hml, hown, hts⟩ (m_readPlaceName l dC dI ar cy _ hN st80 sl81 n82 gb  hG.1 ((⟨by rw [hf83.1], by rw [hf83.2.1], by omega, by omega⟩ : TS st80 n82 gb))) (cwV 0 hts gX12_readOfAll_X12_readPlaceName rfl rfl rfl (by decide +kernel) ⟨Nat.le_of_ble_eq_true rfl, Nat.le_of_ble_eq_true rfl⟩) ⟨fun a U g mk q => ⟨q.1, mPre.blind q.2⟩, va_recv hK hP (ci := 11) (q0 := 0) rfl rfl, fun U hU hW => ⟨rfl, mPre.of hP hK hU hW⟩⟩ rfl rfl hl.1 rfl (lv_room (Nat.le_of_ble_eq_true rfl)) dX12_readOfAll_94 ⟨Nat.le_of_ble_eq_true rfl, Nat.le_of_ble_eq_true rfl⟩) hS (fun q _ h => MA.le hS.1 q h) (MA.le hS.1) (fun r86 x t H locs ht hvm hw hB _ _ hS => ?_)
        have hP := mB.at ht hB
        clear hB ht hvm
        obtain ⟨st87, sl88⟩ := x
        obtain ⟨hG2, hL2, hw⟩ := hw
        have hL : LQ [7, 9] sl sl88 := hL.tr hL2 (by decide)
        clear hL2
        dsimp only at hw
        have hP : va_P (dC, dI) vwCl (mw ar cy st87 sl88) _ := hP
        have hG : MG [1, 2, 3, 6, 7, 8, 9, 10, 11, 12, 14, 15, 19, 20, 21, 22] st st87 := hG.tr hG2 (by decide)
        have hGst87 : MG [1, 2, 3, 6, 7, 8, 9, 10, 11, 12, 13, 14, 15, 19, 20, 21, 22] st80 st87 := hG2
        clear hG2
        rcases hw with ⟨n89, n90, rfl, hf91, hf92, hf93, hf94, hf95⟩ | rfl
        · have hf91c := hf91.2.2.1
          have hf91d := hf91.2.2.2
          refine va_calli (va_runV (As := [.int (nI (va + 1)), .int 1]) (rest := []) ⟨hx, hb, hml, hown, hts⟩ (m_keep1 l dC dI ar cy _ hN st87 sl88 (va + 1) (by omega) hG.1) (cwV 2 hts gX12_readOfAll_X12_keep rfl rfl rfl (by decide +kernel) ⟨Nat.le_of_ble_eq_true rfl, Nat.le_of_ble_eq_true rfl⟩) ⟨fun a U g mk q => ⟨q.1, mPre.blind q.2⟩, va_recv hK hP (ci := 11) (q0 := 0) rfl rfl, fun U hU hW => ⟨rfl, mPre.of hP hK hU hW⟩⟩ rfl rfl hl.1 rfl (lv_room (Nat.le_of_ble_eq_true rfl)) dX12_readOfAll_97 ⟨Nat.le_of_ble_eq_true rfl, Nat.le_of_ble_eq_true rfl⟩) hS (fun q _ h => MA.le hS.1 q h) (MA.le hS.1) (fun r96 x t H locs ht hvm hw hB _ _ hS => ?_)
          have hP := mB.at ht hB
          clear hB ht hvm
          obtain ⟨st97, sl98⟩ := x
          obtain ⟨hG2, hL2, hw⟩ := hw
          have hL : LQ [7, 9] sl sl98 := hL.tr hL2 (by decide)
          clear hL2
          dsimp only at hw
          have hP : va_P (dC, dI) vwCl (mw ar cy st97 sl98) _ := hP
          have hG : MG [1, 2, 3, 6, 7, 8, 9, 10, 11, 12, 14, 15, 19, 20, 21, 22] st st97 := hG.tr hG2 (by decide)
          have hGst97 : MG [1, 2, 3, 4, 5, 6, 7, 8, 9, 10, 11, 12, 14, 15, 16, 17, 19, 20, 21, 22, 23] st87 st97 := hG2
          clear hG2
          obtain ⟨rfl, hf99⟩ := hw
          rw [show st87 0 13 = (nI n90) by rw [hf94]] at hf99
          exact W.zret (v := 1) hx hb hr rfl (fun t ht hW => ⟨⟨1, (st97, sl98), rfl, ⟨hG, hL, Or.inl (⟨n89, rfl, (show TS st97 n89 gb from ⟨by rw [hf99, up2_ne (r := 14) (k := (va + 1)) (a := 0) (j := 5) _ _ (by omega), hf91.1], by rw [hf99, up2_ne (r := 14) (k := (va + 1)) (a := 0) (j := 3) _ _ (by omega), hf91.2.1], by omega, by omega⟩), by omega, fun (hh : st97 0 7 = 4) => by have hk := hf93 (by rw [hf99, up2_ne (r := 14) (k := (va + 1)) (a := 0) (j := 7) _ _ (by omega)] at hh; exact hh); omega, Or.inr (Or.inr (Or.inr (Or.inr (Or.inr (Or.inl ((show st97 14 va = 5 by rw [hf99, up2_ne (r := 14) (k := (va + 1)) (a := 14) (j := va) _ _ (by omega), hGst87.2 14 va (show (13 : Nat) ∈ _ by decide), hGst80.2 14 va (show (13 : Nat) ∈ _ by decide), est78, up2_same]))))))), fun jj hk => by show st97 14 jj = st 14 jj; rw [hf99, up2_ne (r := 14) (k := (va + 1)) (a := 14) (j := jj) _ _ (by omega), hGst87.2 14 jj (show (13 : Nat) ∈ _ by decide), hGst80.2 14 jj (show (13 : Nat) ∈ _ by decide), est78, up2_ne (r := 14) (k := va) (a := 14) (j := jj) _ _ (by omega)]⟩)⟩, mB.of ht hP⟩, hS.F ht⟩) hS.2.2 dX12_readOfAll_100
        · refine va_calli (va_runV (As := [.int (nI (va + 1)), .int 0]) (rest := []) ⟨hx, hb, hml, hown, hts⟩ (m_keep0 l dC dI ar cy _ hN st87 sl88 (nI (va + 1))  hG.1) (cwV 2 hts gX12_readOfAll_X12_keep rfl rfl rfl (by decide +kernel) ⟨Nat.le_of_ble_eq_true rfl, Nat.le_of_ble_eq_true rfl⟩) ⟨fun a U g mk q => ⟨q.1, mPre.blind q.2⟩, va_recv hK hP (ci := 11) (q0 := 0) rfl rfl, fun U hU hW => ⟨rfl, mPre.of hP hK hU hW⟩⟩ rfl rfl hl.1 rfl (lv_room (Nat.le_of_ble_eq_true rfl)) dX12_readOfAll_97 ⟨Nat.le_of_ble_eq_true rfl, Nat.le_of_ble_eq_true rfl⟩) hS (fun q _ h => MA.le hS.1 q h) (MA.le hS.1) (fun r100 x t H locs ht hvm hw hB _ _ hS => ?_)
          have hP := mB.at ht hB
          clear hB ht hvm
          obtain ⟨rfl, hw⟩ := hw
          have hP : va_P (dC, dI) vwCl (mw ar cy st87 sl88) _ := hP
          obtain rfl := hw
          exact W.zret (v := 0) hx hb hr rfl (fun t ht hW => ⟨⟨0, (st87, sl88), rfl, ⟨hG, hL, Or.inr (rfl)⟩, mB.of ht hP⟩, hS.F ht⟩) hS.2.2 dX12_readOfAll_100
      · refine lv_if_eq (tgt := 101) hx hb dX12_readOfAll_75 (by decide) (fun _ => ?_) (fun cc => absurd (by decide) cc)
        refine lv_aload_n hx hb dX12_readOfAll_101 rfl (lv_at hl 1 rfl) ?_
        refine lv_iconst (v := 5) hx hb dX12_readOfAll_102 (by decide) ?_
        refine va_calli (va_runV (As := [.int 5]) (rest := []) ⟨hx, hb, hml, hown, hts⟩ (m_isWord l dC dI ar cy _ hN st sl 5  hG.1) (cwV 1 hts gX12_readOfAll_X12_isWord rfl rfl rfl (by decide +kernel) ⟨Nat.le_of_ble_eq_true rfl, Nat.le_of_ble_eq_true rfl⟩) ⟨fun a U g mk q => ⟨q.1, mPre.blind q.2⟩, va_recv hK hP (ci := 11) (q0 := 0) rfl rfl, fun U hU hW => ⟨rfl, mPre.of hP hK hU hW⟩⟩ rfl rfl hl.1 rfl (lv_room (Nat.le_of_ble_eq_true rfl)) dX12_readOfAll_103 ⟨Nat.le_of_ble_eq_true rfl, Nat.le_of_ble_eq_true rfl⟩) hS (fun q _ h => MA.le hS.1 q h) (MA.le hS.1) (fun r101 x t H locs ht hvm hw hB _ _ hS => ?_)
        have hP := mB.at ht hB
        clear hB ht hvm
        obtain ⟨rfl, hw⟩ := hw
        have hP : va_P (dC, dI) vwCl (mw ar cy st sl) _ := hP
        rcases hw with rfl | rfl
        · refine lv_istore_n (lv' := [(3, .int 1), (2, .int 0), (0, .ref (ar 0)), (1, .int (nI va))]) hx hb dX12_readOfAll_106 rfl hl (by decide) rfl (fun ls hl => ?_)
          refine lv_aload_n hx hb dX12_readOfAll_107 rfl (lv_at hl 2 rfl) ?_
          refine va_get (D := (dC, dI)) (ci := 11) (v := .ref (ar 14)) (C := RX12) (T := TX12) (N := 47) hx hb hts ii_X12_readOfAll hown hK hP 0 rfl rfl 38 (by decide) (hts _ mm_X12_readOfAll_1) (fun _ hh => hh) rfl dX12_readOfAll_108 ?_
          refine lv_iload_n hx hb dX12_readOfAll_111 rfl (lv_at hl 3 rfl) ?_
          refine lv_iload_n hx hb dX12_readOfAll_112 rfl (lv_at hl 0 rfl) ?_
          refine lv_if_eq (tgt := 120) hx hb dX12_readOfAll_113 (by decide) (fun cc => absurd cc (by decide)) (fun _ => ?_)
          refine lv_iconst (v := 2) hx hb dX12_readOfAll_116 (by decide) ?_
          refine lv_goto (tgt := 122) hx hb dX12_readOfAll_117 (by decide) ?_
          refine va_iast hx hb hK hP (mD hN _ _ _ _) hS 14 13 rfl rfl (i := (nI va)) (vp_in_nI (by omega) (by decide)) dX12_readOfAll_122 (fun H locs hP _ hS => ?_)
          rw [nI_clamp (by omega)] at hP
          have hP : va_P (dC, dI) vwCl (mw ar cy (up2 st 14 va 2) sl) H := hP
          obtain ⟨st102, est102⟩ : ∃ y, y = up2 st 14 va 2 := ⟨_, rfl⟩
          have hG : MG [1, 2, 3, 6, 7, 8, 9, 10, 11, 12, 14, 15, 19, 20, 21, 22] st st102 := by rw [est102]; exact hG.up (rz (mr_14_0_196 va (by omega) (by omega))) (pn (pcl_14_0_196 va (by omega) (by omega)) (by decide))
          rw [← est102] at hP
          refine lv_aload_n hx hb dX12_readOfAll_123 rfl (lv_at hl 2 rfl) ?_
          refine va_callv (va_runV (As := []) (rest := []) ⟨hx, hb, hml, hown, hts⟩ (m_go l dC dI ar cy _ hN st102 sl ga gb  hG.1 ((⟨by rw [est102, up2_ne (r := 14) (k := va) (a := 0) (j := 5) _ _ (by omega), hT.1], by rw [est102, up2_ne (r := 14) (k := va) (a := 0) (j := 3) _ _ (by omega), hT.2.1], by omega, by omega⟩ : TS st102 ga gb))) (cwV 0 hts gX12_readOfAll_X12_go rfl rfl rfl (by decide +kernel) ⟨Nat.le_of_ble_eq_true rfl, Nat.le_of_ble_eq_true rfl⟩) ⟨fun a U g mk q => ⟨q.1, mPre.blind q.2⟩, va_recv hK hP (ci := 11) (q0 := 0) rfl rfl, fun U hU hW => ⟨rfl, mPre.of hP hK hU hW⟩⟩ rfl rfl hl.1 rfl (lv_room (Nat.le_of_ble_eq_true rfl)) dX12_readOfAll_124 ⟨Nat.le_of_ble_eq_true rfl, Nat.le_of_ble_eq_true rfl⟩) hS (fun q _ h => MA.le hS.1 q h) (MA.le hS.1) (fun x t H locs ht hvm hw hB _ _ hS => ?_)
          have hP := mB.at ht hB
          clear hB ht hvm
          obtain ⟨st104, sl105⟩ := x
          obtain ⟨hG2, hL2, hw⟩ := hw
          have hL : LQ [7, 9] sl sl105 := hL.tr hL2 (by decide)
          clear hL2
          dsimp only at hw
          have hP : va_P (dC, dI) vwCl (mw ar cy st104 sl105) _ := hP
          have hG : MG [1, 2, 3, 6, 7, 8, 9, 10, 11, 12, 14, 15, 19, 20, 21, 22] st st104 := hG.tr hG2 (by decide)
          have hGst104 : MG [1, 2, 3, 6, 7, 8, 9, 10, 11, 12, 13, 14, 15, 16, 19, 20, 21, 22, 23] st102 st104 := hG2
          clear hG2
          obtain ⟨n106, hf107, hf108, hf109⟩ := hw
          have hf107c := hf107.2.2.1
          have hf107d := hf107.2.2.2
          refine lv_aload_n hx hb dX12_readOfAll_127 rfl (lv_at hl 2 rfl) ?_
          refine lv_iload_n hx hb dX12_readOfAll_128 rfl (lv_at hl 3 rfl) ?_
          refine lv_iconst (v := 1) hx hb dX12_readOfAll_129 (by decide) ?_
          refine lv_iadd hx hb dX12_readOfAll_130 ?_
          refine zz_top (v := nI (va + 1)) (nI_add va 1) ?_
          refine lv_aload_n hx hb dX12_readOfAll_131 rfl (lv_at hl 2 rfl) ?_
          refine lv_iload_n hx hb dX12_readOfAll_132 rfl (lv_at hl 0 rfl) ?_
          refine lv_if_eq (tgt := 140) hx hb dX12_readOfAll_133 (by decide) (fun cc => absurd cc (by decide)) (fun _ => ?_)
          refine lv_iconst (v := 0) hx hb dX12_readOfAll_136 (by decide) ?_
          refine lv_goto (tgt := 141) hx hb dX12_readOfAll_137 (by decide) ?_
          refine lv_iload_n hx hb dX12_readOfAll_141 rfl (lv_at hl 0 rfl) ?_
          refine lv_if_eq (tgt := 150) hx hb dX12_readOfAll_142 (by decide) (fun cc => absurd cc (by decide)) (fun _ => ?_)
          refine lv_bipush (v := 12) hx hb dX12_readOfAll_145 (by decide) ?_
          refine lv_goto (tgt := 152) hx hb dX12_readOfAll_147 (by decide) ?_
          refine va_calli (va_runV (As := [.int 0, .int 12]) (rest := [.int (nI (va + 1)), .ref (ar 0)]) ⟨hx, hb, hml, hown, hts⟩ (m_readNumber l dC dI ar cy _ hN st104 sl105 0 12 n106 gb  hG.1 ((⟨by rw [hf107.1], by rw [hf107.2.1], by omega, by omega⟩ : TS st104 n106 gb))) (cwV 2 hts gX12_readOfAll_X12_readNumber rfl rfl rfl (by decide +kernel) ⟨Nat.le_of_ble_eq_true rfl, Nat.le_of_ble_eq_true rfl⟩) ⟨fun a U g mk q => ⟨q.1, mPre.blind q.2⟩, va_recv hK hP (ci := 11) (q0 := 0) rfl rfl, fun U hU hW => ⟨rfl, mPre.of hP hK hU hW⟩⟩ rfl rfl hl.1 rfl (lv_room (Nat.le_of_ble_eq_true rfl)) dX12_readOfAll_152 ⟨Nat.le_of_ble_eq_true rfl, Nat.le_of_ble_eq_true rfl⟩) hS (fun q _ h => MA.le hS.1 q h) (MA.le hS.1) (fun r110 x t H locs ht hvm hw hB _ _ hS => ?_)
          have hP := mB.at ht hB
          clear hB ht hvm
          obtain ⟨st111, sl112⟩ := x
          obtain ⟨hG2, hL2, hw⟩ := hw
          have hL : LQ [7, 9] sl sl112 := hL.tr hL2 (by decide)
          clear hL2
          dsimp only at hw
          have hP : va_P (dC, dI) vwCl (mw ar cy st111 sl112) _ := hP
          have hG : MG [1, 2, 3, 6, 7, 8, 9, 10, 11, 12, 14, 15, 19, 20, 21, 22] st st111 := hG.tr hG2 (by decide)
          have hGst111 : MG [1, 2, 3, 6, 7, 8, 9, 10, 11, 12, 13, 14, 15, 19, 20, 21, 22] st104 st111 := hG2
          clear hG2
          rcases hw with ⟨n113, z114, rfl, hf115, hf116, hf117, hf118, hf119, hf120⟩ | rfl
          · have hf115c := hf115.2.2.1
            have hf115d := hf115.2.2.2
            obtain ⟨n121, hn121a, hn121b, rfl⟩ := zz_rng (a := 0) (b := 12) (by omega) hf119 (by omega) hf120
            refine va_calli (va_runV (As := [.int (nI (va + 1)), .int 1]) (rest := []) ⟨hx, hb, hml, hown, hts⟩ (m_keep1 l dC dI ar cy _ hN st111 sl112 (va + 1) (by omega) hG.1) (cwV 2 hts gX12_readOfAll_X12_keep rfl rfl rfl (by decide +kernel) ⟨Nat.le_of_ble_eq_true rfl, Nat.le_of_ble_eq_true rfl⟩) ⟨fun a U g mk q => ⟨q.1, mPre.blind q.2⟩, va_recv hK hP (ci := 11) (q0 := 0) rfl rfl, fun U hU hW => ⟨rfl, mPre.of hP hK hU hW⟩⟩ rfl rfl hl.1 rfl (lv_room (Nat.le_of_ble_eq_true rfl)) dX12_readOfAll_155 ⟨Nat.le_of_ble_eq_true rfl, Nat.le_of_ble_eq_true rfl⟩) hS (fun q _ h => MA.le hS.1 q h) (MA.le hS.1) (fun r122 x t H locs ht hvm hw hB _ _ hS => ?_)
            have hP := mB.at ht hB
            clear hB ht hvm
            obtain ⟨st123, sl124⟩ := x
            obtain ⟨hG2, hL2, hw⟩ := hw
            have hL : LQ [7, 9] sl sl124 := hL.tr hL2 (by decide)
            clear hL2
            dsimp only at hw
            have hP : va_P (dC, dI) vwCl (mw ar cy st123 sl124) _ := hP
            have hG : MG [1, 2, 3, 6, 7, 8, 9, 10, 11, 12, 14, 15, 19, 20, 21, 22] st st123 := hG.tr hG2 (by decide)
            have hGst123 : MG [1, 2, 3, 4, 5, 6, 7, 8, 9, 10, 11, 12, 14, 15, 16, 17, 19, 20, 21, 22, 23] st111 st123 := hG2
            clear hG2
            obtain ⟨rfl, hf125⟩ := hw
            rw [show st111 0 13 = (nI n121) by rw [hf118]] at hf125
            exact W.zret (v := 1) hx hb hr rfl (fun t ht hW => ⟨⟨1, (st123, sl124), rfl, ⟨hG, hL, Or.inl (⟨n113, rfl, (show TS st123 n113 gb from ⟨by rw [hf125, up2_ne (r := 14) (k := (va + 1)) (a := 0) (j := 5) _ _ (by omega), hf115.1], by rw [hf125, up2_ne (r := 14) (k := (va + 1)) (a := 0) (j := 3) _ _ (by omega), hf115.2.1], by omega, by omega⟩), by omega, fun (hh : st123 0 7 = 4) => by have hk := hf117 (by rw [hf125, up2_ne (r := 14) (k := (va + 1)) (a := 0) (j := 7) _ _ (by omega)] at hh; exact hh); omega, Or.inr (Or.inr (Or.inl (⟨(show st123 14 va = 2 by rw [hf125, up2_ne (r := 14) (k := (va + 1)) (a := 14) (j := va) _ _ (by omega), hGst111.2 14 va (show (13 : Nat) ∈ _ by decide), hGst104.2 14 va (show (13 : Nat) ∈ _ by decide), est102, up2_same]), n121, by omega, by show st123 14 (va + 1) = _; rw [hf125, up2_same]⟩))), fun jj hk => by show st123 14 jj = st 14 jj; rw [hf125, up2_ne (r := 14) (k := (va + 1)) (a := 14) (j := jj) _ _ (by omega), hGst111.2 14 jj (show (13 : Nat) ∈ _ by decide), hGst104.2 14 jj (show (13 : Nat) ∈ _ by decide), est102, up2_ne (r := 14) (k := va) (a := 14) (j := jj) _ _ (by omega)]⟩)⟩, mB.of ht hP⟩, hS.F ht⟩) hS.2.2 dX12_readOfAll_158
          · refine va_calli (va_runV (As := [.int (nI (va + 1)), .int 0]) (rest := []) ⟨hx, hb, hml, hown, hts⟩ (m_keep0 l dC dI ar cy _ hN st111 sl112 (nI (va + 1))  hG.1) (cwV 2 hts gX12_readOfAll_X12_keep rfl rfl rfl (by decide +kernel) ⟨Nat.le_of_ble_eq_true rfl, Nat.le_of_ble_eq_true rfl⟩) ⟨fun a U g mk q => ⟨q.1, mPre.blind q.2⟩, va_recv hK hP (ci := 11) (q0 := 0) rfl rfl, fun U hU hW => ⟨rfl, mPre.of hP hK hU hW⟩⟩ rfl rfl hl.1 rfl (lv_room (Nat.le_of_ble_eq_true rfl)) dX12_readOfAll_155 ⟨Nat.le_of_ble_eq_true rfl, Nat.le_of_ble_eq_true rfl⟩) hS (fun q _ h => MA.le hS.1 q h) (MA.le hS.1) (fun r126 x t H locs ht hvm hw hB _ _ hS => ?_)
            have hP := mB.at ht hB
            clear hB ht hvm
            obtain ⟨rfl, hw⟩ := hw
            have hP : va_P (dC, dI) vwCl (mw ar cy st111 sl112) _ := hP
            obtain rfl := hw
            exact W.zret (v := 0) hx hb hr rfl (fun t ht hW => ⟨⟨0, (st111, sl112), rfl, ⟨hG, hL, Or.inr (rfl)⟩, mB.of ht hP⟩, hS.F ht⟩) hS.2.2 dX12_readOfAll_158
        · refine lv_istore_n (lv' := [(3, .int 0), (2, .int 0), (0, .ref (ar 0)), (1, .int (nI va))]) hx hb dX12_readOfAll_106 rfl hl (by decide) rfl (fun ls hl => ?_)
          refine lv_aload_n hx hb dX12_readOfAll_107 rfl (lv_at hl 2 rfl) ?_
          refine va_get (D := (dC, dI)) (ci := 11) (v := .ref (ar 14)) (C := RX12) (T := TX12) (N := 47) hx hb hts ii_X12_readOfAll hown hK hP 0 rfl rfl 38 (by decide) (hts _ mm_X12_readOfAll_1) (fun _ hh => hh) rfl dX12_readOfAll_108 ?_
          refine lv_iload_n hx hb dX12_readOfAll_111 rfl (lv_at hl 3 rfl) ?_
          refine lv_iload_n hx hb dX12_readOfAll_112 rfl (lv_at hl 0 rfl) ?_
          refine lv_if_eq (tgt := 120) hx hb dX12_readOfAll_113 (by decide) (fun _ => ?_) (fun cc => absurd (by decide) cc)
          refine lv_bipush (v := 6) hx hb dX12_readOfAll_120 (by decide) ?_
          refine va_iast hx hb hK hP (mD hN _ _ _ _) hS 14 13 rfl rfl (i := (nI va)) (vp_in_nI (by omega) (by decide)) dX12_readOfAll_122 (fun H locs hP _ hS => ?_)
          rw [nI_clamp (by omega)] at hP
          have hP : va_P (dC, dI) vwCl (mw ar cy (up2 st 14 va 6) sl) H := hP
          obtain ⟨st127, est127⟩ : ∃ y, y = up2 st 14 va 6 := ⟨_, rfl⟩
          have hG : MG [1, 2, 3, 6, 7, 8, 9, 10, 11, 12, 14, 15, 19, 20, 21, 22] st st127 := by rw [est127]; exact hG.up (rz (mr_14_0_196 va (by omega) (by omega))) (pn (pcl_14_0_196 va (by omega) (by omega)) (by decide))
          rw [← est127] at hP
          refine lv_aload_n hx hb dX12_readOfAll_123 rfl (lv_at hl 2 rfl) ?_
          refine va_callv (va_runV (As := []) (rest := []) ⟨hx, hb, hml, hown, hts⟩ (m_go l dC dI ar cy _ hN st127 sl ga gb  hG.1 ((⟨by rw [est127, up2_ne (r := 14) (k := va) (a := 0) (j := 5) _ _ (by omega), hT.1], by rw [est127, up2_ne (r := 14) (k := va) (a := 0) (j := 3) _ _ (by omega), hT.2.1], by omega, by omega⟩ : TS st127 ga gb))) (cwV 0 hts gX12_readOfAll_X12_go rfl rfl rfl (by decide +kernel) ⟨Nat.le_of_ble_eq_true rfl, Nat.le_of_ble_eq_true rfl⟩) ⟨fun a U g mk q => ⟨q.1, mPre.blind q.2⟩, va_recv hK hP (ci := 11) (q0 := 0) rfl rfl, fun U hU hW => ⟨rfl, mPre.of hP hK hU hW⟩⟩ rfl rfl hl.1 rfl (lv_room (Nat.le_of_ble_eq_true rfl)) dX12_readOfAll_124 ⟨Nat.le_of_ble_eq_true rfl, Nat.le_of_ble_eq_true rfl⟩) hS (fun q _ h => MA.le hS.1 q h) (MA.le hS.1) (fun x t H locs ht hvm hw hB _ _ hS => ?_)
          have hP := mB.at ht hB
          clear hB ht hvm
          obtain ⟨st129, sl130⟩ := x
          obtain ⟨hG2, hL2, hw⟩ := hw
          have hL : LQ [7, 9] sl sl130 := hL.tr hL2 (by decide)
          clear hL2
          dsimp only at hw
          have hP : va_P (dC, dI) vwCl (mw ar cy st129 sl130) _ := hP
          have hG : MG [1, 2, 3, 6, 7, 8, 9, 10, 11, 12, 14, 15, 19, 20, 21, 22] st st129 := hG.tr hG2 (by decide)
          have hGst129 : MG [1, 2, 3, 6, 7, 8, 9, 10, 11, 12, 13, 14, 15, 16, 19, 20, 21, 22, 23] st127 st129 := hG2
          clear hG2
          obtain ⟨n131, hf132, hf133, hf134⟩ := hw
          have hf132c := hf132.2.2.1
          have hf132d := hf132.2.2.2
          refine lv_aload_n hx hb dX12_readOfAll_127 rfl (lv_at hl 2 rfl) ?_
          refine lv_iload_n hx hb dX12_readOfAll_128 rfl (lv_at hl 3 rfl) ?_
          refine lv_iconst (v := 1) hx hb dX12_readOfAll_129 (by decide) ?_
          refine lv_iadd hx hb dX12_readOfAll_130 ?_
          refine zz_top (v := nI (va + 1)) (nI_add va 1) ?_
          refine lv_aload_n hx hb dX12_readOfAll_131 rfl (lv_at hl 2 rfl) ?_
          refine lv_iload_n hx hb dX12_readOfAll_132 rfl (lv_at hl 0 rfl) ?_
          refine lv_if_eq (tgt := 140) hx hb dX12_readOfAll_133 (by decide) (fun _ => ?_) (fun cc => absurd (by decide) cc)
          refine lv_iconst (v := 1) hx hb dX12_readOfAll_140 (by decide) ?_
          refine lv_iload_n hx hb dX12_readOfAll_141 rfl (lv_at hl 0 rfl) ?_
          refine lv_if_eq (tgt := 150) hx hb dX12_readOfAll_142 (by decide) (fun _ => ?_) (fun cc => absurd (by decide) cc)
          refine lv_bipush (v := 30) hx hb dX12_readOfAll_150 (by decide) ?_
          refine va_calli (va_runV (As := [.int 1, .int 30]) (rest := [.int (nI (va + 1)), .ref (ar 0)]) ⟨hx, hb, hml, hown, hts⟩ (m_readNumber l dC dI ar cy _ hN st129 sl130 1 30 n131 gb  hG.1 ((⟨by rw [hf132.1], by rw [hf132.2.1], by omega, by omega⟩ : TS st129 n131 gb))) (cwV 2 hts gX12_readOfAll_X12_readNumber rfl rfl rfl (by decide +kernel) ⟨Nat.le_of_ble_eq_true rfl, Nat.le_of_ble_eq_true rfl⟩) ⟨fun a U g mk q => ⟨q.1, mPre.blind q.2⟩, va_recv hK hP (ci := 11) (q0 := 0) rfl rfl, fun U hU hW => ⟨rfl, mPre.of hP hK hU hW⟩⟩ rfl rfl hl.1 rfl (lv_room (Nat.le_of_ble_eq_true rfl)) dX12_readOfAll_152 ⟨Nat.le_of_ble_eq_true rfl, Nat.le_of_ble_eq_true rfl⟩) hS (fun q _ h => MA.le hS.1 q h) (MA.le hS.1) (fun r135 x t H locs ht hvm hw hB _ _ hS => ?_)
          have hP := mB.at ht hB
          clear hB ht hvm
          obtain ⟨st136, sl137⟩ := x
          obtain ⟨hG2, hL2, hw⟩ := hw
          have hL : LQ [7, 9] sl sl137 := hL.tr hL2 (by decide)
          clear hL2
          dsimp only at hw
          have hP : va_P (dC, dI) vwCl (mw ar cy st136 sl137) _ := hP
          have hG : MG [1, 2, 3, 6, 7, 8, 9, 10, 11, 12, 14, 15, 19, 20, 21, 22] st st136 := hG.tr hG2 (by decide)
          have hGst136 : MG [1, 2, 3, 6, 7, 8, 9, 10, 11, 12, 13, 14, 15, 19, 20, 21, 22] st129 st136 := hG2
          clear hG2
          rcases hw with ⟨n138, z139, rfl, hf140, hf141, hf142, hf143, hf144, hf145⟩ | rfl
          · have hf140c := hf140.2.2.1
            have hf140d := hf140.2.2.2
            obtain ⟨n146, hn146a, hn146b, rfl⟩ := zz_rng (a := 1) (b := 30) (by omega) hf144 (by omega) hf145
            refine va_calli (va_runV (As := [.int (nI (va + 1)), .int 1]) (rest := []) ⟨hx, hb, hml, hown, hts⟩ (m_keep1 l dC dI ar cy _ hN st136 sl137 (va + 1) (by omega) hG.1) (cwV 2 hts gX12_readOfAll_X12_keep rfl rfl rfl (by decide +kernel) ⟨Nat.le_of_ble_eq_true rfl, Nat.le_of_ble_eq_true rfl⟩) ⟨fun a U g mk q => ⟨q.1, mPre.blind q.2⟩, va_recv hK hP (ci := 11) (q0 := 0) rfl rfl, fun U hU hW => ⟨rfl, mPre.of hP hK hU hW⟩⟩ rfl rfl hl.1 rfl (lv_room (Nat.le_of_ble_eq_true rfl)) dX12_readOfAll_155 ⟨Nat.le_of_ble_eq_true rfl, Nat.le_of_ble_eq_true rfl⟩) hS (fun q _ h => MA.le hS.1 q h) (MA.le hS.1) (fun r147 x t H locs ht hvm hw hB _ _ hS => ?_)
            have hP := mB.at ht hB
            clear hB ht hvm
            obtain ⟨st148, sl149⟩ := x
            obtain ⟨hG2, hL2, hw⟩ := hw
            have hL : LQ [7, 9] sl sl149 := hL.tr hL2 (by decide)
            clear hL2
            dsimp only at hw
            have hP : va_P (dC, dI) vwCl (mw ar cy st148 sl149) _ := hP
            have hG : MG [1, 2, 3, 6, 7, 8, 9, 10, 11, 12, 14, 15, 19, 20, 21, 22] st st148 := hG.tr hG2 (by decide)
            have hGst148 : MG [1, 2, 3, 4, 5, 6, 7, 8, 9, 10, 11, 12, 14, 15, 16, 17, 19, 20, 21, 22, 23] st136 st148 := hG2
            clear hG2
            obtain ⟨rfl, hf150⟩ := hw
            rw [show st136 0 13 = (nI n146) by rw [hf143]] at hf150
            exact W.zret (v := 1) hx hb hr rfl (fun t ht hW => ⟨⟨1, (st148, sl149), rfl, ⟨hG, hL, Or.inl (⟨n138, rfl, (show TS st148 n138 gb from ⟨by rw [hf150, up2_ne (r := 14) (k := (va + 1)) (a := 0) (j := 5) _ _ (by omega), hf140.1], by rw [hf150, up2_ne (r := 14) (k := (va + 1)) (a := 0) (j := 3) _ _ (by omega), hf140.2.1], by omega, by omega⟩), by omega, fun (hh : st148 0 7 = 4) => by have hk := hf142 (by rw [hf150, up2_ne (r := 14) (k := (va + 1)) (a := 0) (j := 7) _ _ (by omega)] at hh; exact hh); omega, Or.inr (Or.inr (Or.inr (Or.inr (Or.inr (Or.inr ((show st148 14 va = 6 by rw [hf150, up2_ne (r := 14) (k := (va + 1)) (a := 14) (j := va) _ _ (by omega), hGst136.2 14 va (show (13 : Nat) ∈ _ by decide), hGst129.2 14 va (show (13 : Nat) ∈ _ by decide), est127, up2_same]))))))), fun jj hk => by show st148 14 jj = st 14 jj; rw [hf150, up2_ne (r := 14) (k := (va + 1)) (a := 14) (j := jj) _ _ (by omega), hGst136.2 14 jj (show (13 : Nat) ∈ _ by decide), hGst129.2 14 jj (show (13 : Nat) ∈ _ by decide), est127, up2_ne (r := 14) (k := va) (a := 14) (j := jj) _ _ (by omega)]⟩)⟩, mB.of ht hP⟩, hS.F ht⟩) hS.2.2 dX12_readOfAll_158
          · refine va_calli (va_runV (As := [.int (nI (va + 1)), .int 0]) (rest := []) ⟨hx, hb, hml, hown, hts⟩ (m_keep0 l dC dI ar cy _ hN st136 sl137 (nI (va + 1))  hG.1) (cwV 2 hts gX12_readOfAll_X12_keep rfl rfl rfl (by decide +kernel) ⟨Nat.le_of_ble_eq_true rfl, Nat.le_of_ble_eq_true rfl⟩) ⟨fun a U g mk q => ⟨q.1, mPre.blind q.2⟩, va_recv hK hP (ci := 11) (q0 := 0) rfl rfl, fun U hU hW => ⟨rfl, mPre.of hP hK hU hW⟩⟩ rfl rfl hl.1 rfl (lv_room (Nat.le_of_ble_eq_true rfl)) dX12_readOfAll_155 ⟨Nat.le_of_ble_eq_true rfl, Nat.le_of_ble_eq_true rfl⟩) hS (fun q _ h => MA.le hS.1 q h) (MA.le hS.1) (fun r151 x t H locs ht hvm hw hB _ _ hS => ?_)
            have hP := mB.at ht hB
            clear hB ht hvm
            obtain ⟨rfl, hw⟩ := hw
            have hP : va_P (dC, dI) vwCl (mw ar cy st136 sl137) _ := hP
            obtain rfl := hw
            exact W.zret (v := 0) hx hb hr rfl (fun t ht hW => ⟨⟨0, (st136, sl137), rfl, ⟨hG, hL, Or.inr (rfl)⟩, mB.of ht hP⟩, hS.F ht⟩) hS.2.2 dX12_readOfAll_158
set_option maxHeartbeats 4000000 in
set_option maxRecDepth 100000 in
theorem m_readBookLine (l : Launch) (dC : Nat → ClassId) (dI : Nat → Nat → Nat) (ar : Nat → Nat) (cy : Nat → ClassId) (sz : Nat) (hN : MN ar) (st : Nat → Nat → Int32) (sl : Nat → Nat → Int64) (gn : Nat) (ga gb : Nat) (hI : MI st) (hT : TS st ga gb) (hn0 : st 0 40 = nI gn) (hLI : LI st gn) (hgn : gn < 41) : Met l yX12_readBookLine wsX12_readBookLine ({ frames := 6, cells := 0, slots := 0, locals := 134 }) (va_Pc [.ref (ar 0)] (mPre dC dI ar cy sz st sl)) (va_Qi (fun (r : Int32) (x : MT) => MG [1, 2, 3, 6, 7, 8, 9, 10, 11, 12, 14, 15, 19, 20, 21, 22] st x.1 ∧ LQ [7, 9] sl x.2 ∧ ((∃ g : Nat, r = 1 ∧ TS x.1 g gb ∧ ga < g ∧ LI x.1 (gn + 1) ∧ gn < 40) ∨ (r = 0))) (mB dC dI ar cy) (MA ar sz)) 0 0 (MA ar sz) := by
  refine Met.ofW (cc := cX12_readBookLine) (maxL := 5) (ret := (some .boolean)) (by decide) rfl ?_
  intro p e s m args below meth c s₁ B hml hv
  obtain ⟨rfl, hsz, hP, hK⟩ := hv
  have hx := B.exec
  have hb := B.bytes
  have hr := B.returns
  have hts := atoms_spec (ws := wsX12_readBookLine) B.pre
  have hown : s.vm.findClass RX12 = some m.cls := findClass_of_methodNamed B.named
  subst hsz
  have hS : va_S (MA ar s.heap.size) s.heap s.heap [] := va_S.rf
  have hG : MG [1, 2, 3, 6, 7, 8, 9, 10, 11, 12, 14, 15, 19, 20, 21, 22] st st := MG.rf hI
  have hl := lv_entry ([.ref (ar 0)]) (n := 5) (Nat.le_of_ble_eq_true rfl)
  rw [lg_entry_eq]
  generalize (lg_sl ([.ref (ar 0)]) ++ List.replicate (5 - (lg_sl ([.ref (ar 0)])).length) Slot.unset).toArray = ls at hl ⊢
  have hl : lv_has ls 5 [(0, .ref (ar 0))] := hl
  clear hI
  have hL : LQ [7, 9] sl sl := LQ.rf
  have hTc := hT.2.2.1
  have hTd := hT.2.2.2
  have hga : ga ≤ ga := Nat.le_refl ga
  refine lv_aload_n hx hb dX12_readBookLine_0 rfl (lv_at hl 0 rfl) ?_
  refine va_calli (va_runV (As := []) (rest := []) ⟨hx, hb, hml, hown, hts⟩ (m_isOfAll l dC dI ar cy _ hN st sl  hG.1) (cwV 0 hts gX12_readBookLine_X12_isOfAll rfl rfl rfl (by decide +kernel) ⟨Nat.le_of_ble_eq_true rfl, Nat.le_of_ble_eq_true rfl⟩) ⟨fun a U g mk q => ⟨q.1, mPre.blind q.2⟩, va_recv hK hP (ci := 11) (q0 := 0) rfl rfl, fun U hU hW => ⟨rfl, mPre.of hP hK hU hW⟩⟩ rfl rfl hl.1 rfl (lv_room (Nat.le_of_ble_eq_true rfl)) dX12_readBookLine_1 ⟨Nat.le_of_ble_eq_true rfl, Nat.le_of_ble_eq_true rfl⟩) hS (fun q _ h => MA.le hS.1 q h) (MA.le hS.1) (fun r1 x t H locs ht hvm hw hB _ _ hS => ?_)
  have hP := mB.at ht hB
  clear hB ht hvm
  obtain ⟨rfl, hw⟩ := hw
  have hP : va_P (dC, dI) vwCl (mw ar cy st sl) _ := hP
  rcases hw with rfl | rfl
  · refine lv_istore_n (lv' := [(1, .int 1), (0, .ref (ar 0))]) hx hb dX12_readBookLine_4 rfl hl (by decide) rfl (fun ls hl => ?_)
    refine lv_iconst (v := (-1)) hx hb dX12_readBookLine_5 (by decide) ?_
    refine lv_istore_n (lv' := [(2, .int (-1)), (1, .int 1), (0, .ref (ar 0))]) hx hb dX12_readBookLine_6 rfl hl (by decide) rfl (fun ls hl => ?_)
    refine lv_iconst (v := (-1)) hx hb dX12_readBookLine_7 (by decide) ?_
    refine lv_istore_n (lv' := [(3, .int (-1)), (2, .int (-1)), (1, .int 1), (0, .ref (ar 0))]) hx hb dX12_readBookLine_8 rfl hl (by decide) rfl (fun ls hl => ?_)
    refine lv_iload_n hx hb dX12_readBookLine_9 rfl (lv_at hl 2 rfl) ?_
    refine lv_if_ne (tgt := 81) hx hb dX12_readBookLine_10 (by decide) (fun _ => ?_) (fun cc => absurd cc (by decide))
    refine lv_aload_n hx hb dX12_readBookLine_81 rfl (lv_at hl 3 rfl) ?_
    refine va_get (D := (dC, dI)) (ci := 11) (v := .int (st 0 40)) (C := RX12) (T := TX12) (N := 47) hx hb hts ii_X12_readBookLine hown hK hP 0 rfl rfl 40 (by decide) (hts _ mm_X12_readBookLine_4) (fun _ hh => hh) rfl dX12_readBookLine_82 ?_
    refine zz_top (v := (nI gn)) (by show st 0 40 = _; rw [hn0]) ?_
    refine lv_bipush (v := 40) hx hb dX12_readBookLine_85 (by decide) ?_
    refine lv_icmp_ne (tgt := 96) hx hb dX12_readBookLine_87 (by decide) (fun c2 => ?_) (fun c2 => ?_)
    · have c2 : ¬ gn = 40 := fun hh => c2 ((nI_eq (a := gn) (b := 40) (by omega) (by omega)).mpr hh)
      refine lv_iconst (v := 5) hx hb dX12_readBookLine_96 (by decide) ?_
      refine lv_aload_n hx hb dX12_readBookLine_97 rfl (lv_at hl 3 rfl) ?_
      refine va_get (D := (dC, dI)) (ci := 11) (v := .int (st 0 40)) (C := RX12) (T := TX12) (N := 47) hx hb hts ii_X12_readBookLine hown hK hP 0 rfl rfl 40 (by decide) (hts _ mm_X12_readBookLine_4) (fun _ hh => hh) rfl dX12_readBookLine_98 ?_
      refine zz_top (v := (nI gn)) (by show st 0 40 = _; rw [hn0]) ?_
      refine lv_imul hx hb dX12_readBookLine_101 ?_
      refine zz_top (v := nI (5 * gn)) (nI_mul 5 gn) ?_
      refine lv_istore (lv' := [(4, .int (nI (5 * gn))), (3, .int (-1)), (2, .int (-1)), (1, .int 1), (0, .ref (ar 0))]) hx hb dX12_readBookLine_102 hl (by decide) rfl (fun ls hl => ?_)
      refine lv_iload_n hx hb dX12_readBookLine_104 rfl (lv_at hl 3 rfl) ?_
      refine lv_if_eq (tgt := 130) hx hb dX12_readBookLine_105 (by decide) (fun cc => absurd cc (by decide)) (fun _ => ?_)
      refine lv_aload_n hx hb dX12_readBookLine_108 rfl (lv_at hl 4 rfl) ?_
      refine lv_iload hx hb dX12_readBookLine_109 (lv_at hl 0 rfl) ?_
      refine va_calli (va_runV (As := [.int (nI (5 * gn))]) (rest := []) ⟨hx, hb, hml, hown, hts⟩ (m_readOfAll l dC dI ar cy _ hN st sl (5 * gn) ga gb (by omega) hG.1 ((⟨by rw [hT.1], by rw [hT.2.1], by omega, by omega⟩ : TS st ga gb))) (cwV 1 hts gX12_readBookLine_X12_readOfAll rfl rfl rfl (by decide +kernel) ⟨Nat.le_of_ble_eq_true rfl, Nat.le_of_ble_eq_true rfl⟩) ⟨fun a U g mk q => ⟨q.1, mPre.blind q.2⟩, va_recv hK hP (ci := 11) (q0 := 0) rfl rfl, fun U hU hW => ⟨rfl, mPre.of hP hK hU hW⟩⟩ rfl rfl hl.1 rfl (lv_room (Nat.le_of_ble_eq_true rfl)) dX12_readBookLine_111 ⟨Nat.le_of_ble_eq_true rfl, Nat.le_of_ble_eq_true rfl⟩) hS (fun q _ h => MA.le hS.1 q h) (MA.le hS.1) (fun r2 x t H locs ht hvm hw hB _ _ hS => ?_)
      have hP := mB.at ht hB
      clear hB ht hvm
      obtain ⟨st3, sl4⟩ := x
      obtain ⟨hG2, hL2, hw⟩ := hw
      have hL : LQ [7, 9] sl sl4 := hL.tr hL2 (by decide)
      clear hL2
      dsimp only at hw
      have hP : va_P (dC, dI) vwCl (mw ar cy st3 sl4) _ := hP
      have hG : MG [1, 2, 3, 6, 7, 8, 9, 10, 11, 12, 14, 15, 19, 20, 21, 22] st st3 := hG.tr hG2 (by decide)
      have hGst3 : MG [1, 2, 3, 6, 7, 8, 9, 10, 11, 12, 14, 15, 19, 20, 21, 22] st st3 := hG2
      clear hG2
      rcases hw with ⟨n5, rfl, hf6, hf7, hf8, hf9, hf10⟩ | rfl
      · have hf6c := hf6.2.2.1
        have hf6d := hf6.2.2.2
        refine lv_if_eq (tgt := 128) hx hb dX12_readBookLine_114 (by decide) (fun cc => absurd cc (by decide)) (fun _ => ?_)
        refine lv_aload_n hx hb dX12_readBookLine_117 rfl (lv_at hl 4 rfl) ?_
        refine va_calli (va_runV (As := []) (rest := []) ⟨hx, hb, hml, hown, hts⟩ (m_readEnd l dC dI ar cy _ hN st3 sl4 n5 gb  hG.1 ((⟨by rw [hf6.1], by rw [hf6.2.1], by omega, by omega⟩ : TS st3 n5 gb))) (cwV 0 hts gX12_readBookLine_X12_readEnd rfl rfl rfl (by decide +kernel) ⟨Nat.le_of_ble_eq_true rfl, Nat.le_of_ble_eq_true rfl⟩) ⟨fun a U g mk q => ⟨q.1, mPre.blind q.2⟩, va_recv hK hP (ci := 11) (q0 := 0) rfl rfl, fun U hU hW => ⟨rfl, mPre.of hP hK hU hW⟩⟩ rfl rfl hl.1 rfl (lv_room (Nat.le_of_ble_eq_true rfl)) dX12_readBookLine_118 ⟨Nat.le_of_ble_eq_true rfl, Nat.le_of_ble_eq_true rfl⟩) hS (fun q _ h => MA.le hS.1 q h) (MA.le hS.1) (fun r11 x t H locs ht hvm hw hB _ _ hS => ?_)
        have hP := mB.at ht hB
        clear hB ht hvm
        obtain ⟨st12, sl13⟩ := x
        obtain ⟨hG2, hL2, hw⟩ := hw
        have hL : LQ [7, 9] sl sl13 := hL.tr hL2 (by decide)
        clear hL2
        dsimp only at hw
        have hP : va_P (dC, dI) vwCl (mw ar cy st12 sl13) _ := hP
        have hG : MG [1, 2, 3, 6, 7, 8, 9, 10, 11, 12, 14, 15, 19, 20, 21, 22] st st12 := hG.tr hG2 (by decide)
        have hGst12 : MG [1, 2, 3, 6, 7, 8, 9, 10, 11, 12, 13, 14, 15, 19, 20, 21, 22] st3 st12 := hG2
        clear hG2
        rcases hw with ⟨n14, rfl, hf15, hf16, hf17, hf18⟩ | rfl
        · have hf15c := hf15.2.2.1
          have hf15d := hf15.2.2.2
          have hpr := hf8 hf18
          refine lv_if_eq (tgt := 128) hx hb dX12_readBookLine_121 (by decide) (fun cc => absurd cc (by decide)) (fun _ => ?_)
          refine lv_iconst (v := 1) hx hb dX12_readBookLine_124 (by decide) ?_
          refine lv_goto (tgt := 129) hx hb dX12_readBookLine_125 (by decide) ?_
          have hok : lineOK (st12 14) (5 * gn) := lineOK.eq hf9 (fun jj hk => by show st12 14 jj = st3 14 jj; rw [hGst12.2 14 jj (show (13 : Nat) ∈ _ by decide)])
          have hpx : ∀ j, j < 5 * gn → st12 14 j = st 14 j := fun jj hk => by show st12 14 jj = st 14 jj; rw [hGst12.2 14 jj (show (13 : Nat) ∈ _ by decide), hf10 jj (by omega)]
          exact W.zret (v := 1) hx hb hr rfl (fun t ht hW => ⟨⟨1, (st12, sl13), rfl, ⟨hG, hL, Or.inl ⟨n14, rfl, (show TS st12 n14 gb from ⟨by rw [hf15.1], by rw [hf15.2.1], by omega, by omega⟩), by omega, LI.more hLI hpx hok, by omega⟩⟩, mB.of ht hP⟩, hS.F ht⟩) hS.2.2 dX12_readBookLine_129
        · refine lv_if_eq (tgt := 128) hx hb dX12_readBookLine_121 (by decide) (fun _ => ?_) (fun cc => absurd (by decide) cc)
          refine lv_iconst (v := 0) hx hb dX12_readBookLine_128 (by decide) ?_
          exact W.zret (v := 0) hx hb hr rfl (fun t ht hW => ⟨⟨0, (st12, sl13), rfl, ⟨hG, hL, Or.inr (rfl)⟩, mB.of ht hP⟩, hS.F ht⟩) hS.2.2 dX12_readBookLine_129
      · refine lv_if_eq (tgt := 128) hx hb dX12_readBookLine_114 (by decide) (fun _ => ?_) (fun cc => absurd (by decide) cc)
        refine lv_iconst (v := 0) hx hb dX12_readBookLine_128 (by decide) ?_
        exact W.zret (v := 0) hx hb hr rfl (fun t ht hW => ⟨⟨0, (st3, sl4), rfl, ⟨hG, hL, Or.inr (rfl)⟩, mB.of ht hP⟩, hS.F ht⟩) hS.2.2 dX12_readBookLine_129
    · have c2 : gn = 40 := (nI_eq (a := gn) (b := 40) (by omega) (by omega)).mp c2
      refine lv_aload_n hx hb dX12_readBookLine_90 rfl (lv_at hl 3 rfl) ?_
      refine lv_iconst (v := 4) hx hb dX12_readBookLine_91 (by decide) ?_
      refine va_calli (va_runV (As := [.int 4]) (rest := []) ⟨hx, hb, hml, hown, hts⟩ (m_bad l dC dI ar cy _ hN st sl 4  hG.1) (cwV 1 hts gX12_readBookLine_X12_bad rfl rfl rfl (by decide +kernel) ⟨Nat.le_of_ble_eq_true rfl, Nat.le_of_ble_eq_true rfl⟩) ⟨fun a U g mk q => ⟨q.1, mPre.blind q.2⟩, va_recv hK hP (ci := 11) (q0 := 0) rfl rfl, fun U hU hW => ⟨rfl, mPre.of hP hK hU hW⟩⟩ rfl rfl hl.1 rfl (lv_room (Nat.le_of_ble_eq_true rfl)) dX12_readBookLine_92 ⟨Nat.le_of_ble_eq_true rfl, Nat.le_of_ble_eq_true rfl⟩) hS (fun q _ h => MA.le hS.1 q h) (MA.le hS.1) (fun r19 x t H locs ht hvm hw hB _ _ hS => ?_)
      have hP := mB.at ht hB
      clear hB ht hvm
      obtain ⟨st20, sl21⟩ := x
      obtain ⟨hG2, hL2, hw⟩ := hw
      have hL : LQ [7, 9] sl sl21 := hL.tr hL2 (by decide)
      clear hL2
      have hP : va_P (dC, dI) vwCl (mw ar cy st20 sl21) _ := hP
      have hG : MG [1, 2, 3, 6, 7, 8, 9, 10, 11, 12, 14, 15, 19, 20, 21, 22] st st20 := hG.tr hG2 (by decide)
      have hGst20 : MG [1, 2, 3, 4, 5, 6, 7, 8, 9, 10, 11, 12, 13, 14, 15, 16, 17, 19, 20, 21, 22] st st20 := hG2
      clear hG2
      obtain rfl := hw
      exact W.zret (v := 0) hx hb hr rfl (fun t ht hW => ⟨⟨0, (st20, sl21), rfl, ⟨hG, hL, Or.inr (rfl)⟩, mB.of ht hP⟩, hS.F ht⟩) hS.2.2 dX12_readBookLine_95
  · refine lv_istore_n (lv' := [(1, .int 0), (0, .ref (ar 0))]) hx hb dX12_readBookLine_4 rfl hl (by decide) rfl (fun ls hl => ?_)
    refine lv_iconst (v := (-1)) hx hb dX12_readBookLine_5 (by decide) ?_
    refine lv_istore_n (lv' := [(2, .int (-1)), (1, .int 0), (0, .ref (ar 0))]) hx hb dX12_readBookLine_6 rfl hl (by decide) rfl (fun ls hl => ?_)
    refine lv_iconst (v := (-1)) hx hb dX12_readBookLine_7 (by decide) ?_
    refine lv_istore_n (lv' := [(3, .int (-1)), (2, .int (-1)), (1, .int 0), (0, .ref (ar 0))]) hx hb dX12_readBookLine_8 rfl hl (by decide) rfl (fun ls hl => ?_)
    refine lv_iload_n hx hb dX12_readBookLine_9 rfl (lv_at hl 2 rfl) ?_
    refine lv_if_ne (tgt := 81) hx hb dX12_readBookLine_10 (by decide) (fun cc => absurd (by decide) cc) (fun _ => ?_)
    refine lv_aload_n hx hb dX12_readBookLine_13 rfl (lv_at hl 3 rfl) ?_
    refine va_calli (va_runV (As := []) (rest := []) ⟨hx, hb, hml, hown, hts⟩ (m_isName l dC dI ar cy _ hN st sl  hG.1) (cwV 0 hts gX12_readBookLine_X12_isName rfl rfl rfl (by decide +kernel) ⟨Nat.le_of_ble_eq_true rfl, Nat.le_of_ble_eq_true rfl⟩) ⟨fun a U g mk q => ⟨q.1, mPre.blind q.2⟩, va_recv hK hP (ci := 11) (q0 := 0) rfl rfl, fun U hU hW => ⟨rfl, mPre.of hP hK hU hW⟩⟩ rfl rfl hl.1 rfl (lv_room (Nat.le_of_ble_eq_true rfl)) dX12_readBookLine_14 ⟨Nat.le_of_ble_eq_true rfl, Nat.le_of_ble_eq_true rfl⟩) hS (fun q _ h => MA.le hS.1 q h) (MA.le hS.1) (fun r22 x t H locs ht hvm hw hB _ _ hS => ?_)
    have hP := mB.at ht hB
    clear hB ht hvm
    obtain ⟨rfl, hw⟩ := hw
    have hP : va_P (dC, dI) vwCl (mw ar cy st sl) _ := hP
    rcases hw with rfl | rfl
    · refine lv_if_ne (tgt := 26) hx hb dX12_readBookLine_17 (by decide) (fun _ => ?_) (fun cc => absurd cc (by decide))
      refine lv_aload_n hx hb dX12_readBookLine_26 rfl (lv_at hl 3 rfl) ?_
      refine va_get (D := (dC, dI)) (ci := 11) (v := .ref (ar 7)) (C := RX12) (T := TX12) (N := 47) hx hb hts ii_X12_readBookLine hown hK hP 0 rfl rfl 19 (by decide) (hts _ mm_X12_readBookLine_1) (fun _ hh => hh) rfl dX12_readBookLine_27 ?_
      refine lv_bipush (v := 13) hx hb dX12_readBookLine_30 (by decide) ?_
      refine lv_aload_n hx hb dX12_readBookLine_32 rfl (lv_at hl 3 rfl) ?_
      refine va_get (D := (dC, dI)) (ci := 11) (v := .ref (ar 2)) (C := RX12) (T := TX12) (N := 47) hx hb hts ii_X12_readBookLine hown hK hP 0 rfl rfl 14 (by decide) (hts _ mm_X12_readBookLine_2) (fun _ hh => hh) rfl dX12_readBookLine_33 ?_
      refine lv_iconst (v := 2) hx hb dX12_readBookLine_36 (by decide) ?_
      refine va_iald hx hb hK hP 2 1 rfl rfl (i := 2) (zz_in (by decide)) dX12_readBookLine_37 ?_
      obtain ⟨n23, hn23, en23⟩ := hG.1.at (r := 2) (k := 2) (by decide : mr 2 2 = 7) (by decide)
      refine zz_top (v := nI n23) (by exact en23) ?_
      refine lv_aload_n hx hb dX12_readBookLine_38 rfl (lv_at hl 3 rfl) ?_
      refine va_get (D := (dC, dI)) (ci := 11) (v := .long (sl 0 12)) (C := RX12) (T := TX12) (N := 47) hx hb hts ii_X12_readBookLine hown hK hP 0 rfl rfl 12 (by decide) (hts _ mm_X12_readBookLine_3) (fun _ hh => hh) rfl dX12_readBookLine_39 ?_
      refine lv_topl (fun z24 ez24 => ?_)
      clear ez24
      refine va_calli (va_runS (As := [.ref (ar 7), .int 13, .int (nI n23), .long z24]) (rest := []) ⟨hx, hb, hml, hown, hts⟩ (m_findIn7 l dC dI ar cy _ hN st sl 13 n23 z24 (by omega) (by omega) hG.1 (by omega)) (va_cwS 4 hts gX12_readBookLine_X12_findIn rfl rfl rfl (by decide +kernel) ⟨Nat.le_of_ble_eq_true rfl, Nat.le_of_ble_eq_true rfl⟩) ⟨fun a U g mk q => ⟨q.1, mPre.blind q.2⟩, fun U hU hW => ⟨rfl, mPre.of hP hK hU hW⟩⟩ rfl rfl hl.1 rfl (lv_room (Nat.le_of_ble_eq_true rfl)) dX12_readBookLine_42 ⟨Nat.le_of_ble_eq_true rfl, Nat.le_of_ble_eq_true rfl⟩) hS (fun q _ h => MA.le hS.1 q h) (MA.le hS.1) (fun r25 x t H locs ht hvm hw hB _ _ hS => ?_)
      have hP := mB.at ht hB
      clear hB ht hvm
      obtain ⟨rfl, hw⟩ := hw
      have hP : va_P (dC, dI) vwCl (mw ar cy st sl) _ := hP
      rcases hw with rfl | ⟨n26, rfl, hf27⟩
      · refine lv_istore_n (lv' := [(2, .int (-1)), (3, .int (-1)), (1, .int 0), (0, .ref (ar 0))]) hx hb dX12_readBookLine_45 rfl hl (by decide) rfl (fun ls hl => ?_)
        refine lv_aload_n hx hb dX12_readBookLine_46 rfl (lv_at hl 3 rfl) ?_
        refine va_get (D := (dC, dI)) (ci := 11) (v := .ref (ar 7)) (C := RX12) (T := TX12) (N := 47) hx hb hts ii_X12_readBookLine hown hK hP 0 rfl rfl 19 (by decide) (hts _ mm_X12_readBookLine_1) (fun _ hh => hh) rfl dX12_readBookLine_47 ?_
        refine lv_iconst (v := 5) hx hb dX12_readBookLine_50 (by decide) ?_
        refine lv_aload_n hx hb dX12_readBookLine_51 rfl (lv_at hl 3 rfl) ?_
        refine va_get (D := (dC, dI)) (ci := 11) (v := .ref (ar 2)) (C := RX12) (T := TX12) (N := 47) hx hb hts ii_X12_readBookLine hown hK hP 0 rfl rfl 14 (by decide) (hts _ mm_X12_readBookLine_2) (fun _ hh => hh) rfl dX12_readBookLine_52 ?_
        refine lv_iconst (v := 1) hx hb dX12_readBookLine_55 (by decide) ?_
        refine va_iald hx hb hK hP 2 1 rfl rfl (i := 1) (zz_in (by decide)) dX12_readBookLine_56 ?_
        obtain ⟨n28, hn28, en28⟩ := hG.1.at (r := 2) (k := 1) (by decide : mr 2 1 = 9) (by decide)
        refine zz_top (v := nI n28) (by exact en28) ?_
        refine lv_aload_n hx hb dX12_readBookLine_57 rfl (lv_at hl 3 rfl) ?_
        refine va_get (D := (dC, dI)) (ci := 11) (v := .long (sl 0 12)) (C := RX12) (T := TX12) (N := 47) hx hb hts ii_X12_readBookLine hown hK hP 0 rfl rfl 12 (by decide) (hts _ mm_X12_readBookLine_3) (fun _ hh => hh) rfl dX12_readBookLine_58 ?_
        refine lv_topl (fun z29 ez29 => ?_)
        clear ez29
        refine va_calli (va_runS (As := [.ref (ar 7), .int 5, .int (nI n28), .long z29]) (rest := []) ⟨hx, hb, hml, hown, hts⟩ (m_findIn7 l dC dI ar cy _ hN st sl 5 n28 z29 (by omega) (by omega) hG.1 (by omega)) (va_cwS 4 hts gX12_readBookLine_X12_findIn rfl rfl rfl (by decide +kernel) ⟨Nat.le_of_ble_eq_true rfl, Nat.le_of_ble_eq_true rfl⟩) ⟨fun a U g mk q => ⟨q.1, mPre.blind q.2⟩, fun U hU hW => ⟨rfl, mPre.of hP hK hU hW⟩⟩ rfl rfl hl.1 rfl (lv_room (Nat.le_of_ble_eq_true rfl)) dX12_readBookLine_61 ⟨Nat.le_of_ble_eq_true rfl, Nat.le_of_ble_eq_true rfl⟩) hS (fun q _ h => MA.le hS.1 q h) (MA.le hS.1) (fun r30 x t H locs ht hvm hw hB _ _ hS => ?_)
        have hP := mB.at ht hB
        clear hB ht hvm
        obtain ⟨rfl, hw⟩ := hw
        have hP : va_P (dC, dI) vwCl (mw ar cy st sl) _ := hP
        rcases hw with rfl | ⟨n31, rfl, hf32⟩
        · refine lv_istore_n (lv' := [(3, .int (-1)), (2, .int (-1)), (1, .int 0), (0, .ref (ar 0))]) hx hb dX12_readBookLine_64 rfl hl (by decide) rfl (fun ls hl => ?_)
          refine lv_iload_n hx hb dX12_readBookLine_65 rfl (lv_at hl 1 rfl) ?_
          refine lv_iconst (v := (-1)) hx hb dX12_readBookLine_66 (by decide) ?_
          refine lv_icmp_ne (tgt := 81) hx hb dX12_readBookLine_67 (by decide) (fun cc => absurd (by decide) cc) (fun _ => ?_)
          refine lv_iload_n hx hb dX12_readBookLine_70 rfl (lv_at hl 0 rfl) ?_
          refine lv_iconst (v := (-1)) hx hb dX12_readBookLine_71 (by decide) ?_
          refine lv_icmp_ne (tgt := 81) hx hb dX12_readBookLine_72 (by decide) (fun cc => absurd (by decide) cc) (fun _ => ?_)
          refine lv_aload_n hx hb dX12_readBookLine_75 rfl (lv_at hl 3 rfl) ?_
          refine lv_iconst (v := 3) hx hb dX12_readBookLine_76 (by decide) ?_
          refine va_calli (va_runV (As := [.int 3]) (rest := []) ⟨hx, hb, hml, hown, hts⟩ (m_bad l dC dI ar cy _ hN st sl 3  hG.1) (cwV 1 hts gX12_readBookLine_X12_bad rfl rfl rfl (by decide +kernel) ⟨Nat.le_of_ble_eq_true rfl, Nat.le_of_ble_eq_true rfl⟩) ⟨fun a U g mk q => ⟨q.1, mPre.blind q.2⟩, va_recv hK hP (ci := 11) (q0 := 0) rfl rfl, fun U hU hW => ⟨rfl, mPre.of hP hK hU hW⟩⟩ rfl rfl hl.1 rfl (lv_room (Nat.le_of_ble_eq_true rfl)) dX12_readBookLine_77 ⟨Nat.le_of_ble_eq_true rfl, Nat.le_of_ble_eq_true rfl⟩) hS (fun q _ h => MA.le hS.1 q h) (MA.le hS.1) (fun r33 x t H locs ht hvm hw hB _ _ hS => ?_)
          have hP := mB.at ht hB
          clear hB ht hvm
          obtain ⟨st34, sl35⟩ := x
          obtain ⟨hG2, hL2, hw⟩ := hw
          have hL : LQ [7, 9] sl sl35 := hL.tr hL2 (by decide)
          clear hL2
          have hP : va_P (dC, dI) vwCl (mw ar cy st34 sl35) _ := hP
          have hG : MG [1, 2, 3, 6, 7, 8, 9, 10, 11, 12, 14, 15, 19, 20, 21, 22] st st34 := hG.tr hG2 (by decide)
          have hGst34 : MG [1, 2, 3, 4, 5, 6, 7, 8, 9, 10, 11, 12, 13, 14, 15, 16, 17, 19, 20, 21, 22] st st34 := hG2
          clear hG2
          obtain rfl := hw
          exact W.zret (v := 0) hx hb hr rfl (fun t ht hW => ⟨⟨0, (st34, sl35), rfl, ⟨hG, hL, Or.inr (rfl)⟩, mB.of ht hP⟩, hS.F ht⟩) hS.2.2 dX12_readBookLine_80
        · refine lv_istore_n (lv' := [(3, .int (nI n31)), (2, .int (-1)), (1, .int 0), (0, .ref (ar 0))]) hx hb dX12_readBookLine_64 rfl hl (by decide) rfl (fun ls hl => ?_)
          refine lv_iload_n hx hb dX12_readBookLine_65 rfl (lv_at hl 1 rfl) ?_
          refine lv_iconst (v := (-1)) hx hb dX12_readBookLine_66 (by decide) ?_
          refine lv_icmp_ne (tgt := 81) hx hb dX12_readBookLine_67 (by decide) (fun cc => absurd (by decide) cc) (fun _ => ?_)
          refine lv_iload_n hx hb dX12_readBookLine_70 rfl (lv_at hl 0 rfl) ?_
          refine lv_iconst (v := (-1)) hx hb dX12_readBookLine_71 (by decide) ?_
          refine lv_icmp_ne (tgt := 81) hx hb dX12_readBookLine_72 (by decide) (fun _ => ?_) (fun cc => absurd cc (nI_nem (by omega)))
          refine lv_aload_n hx hb dX12_readBookLine_81 rfl (lv_at hl 3 rfl) ?_
          refine va_get (D := (dC, dI)) (ci := 11) (v := .int (st 0 40)) (C := RX12) (T := TX12) (N := 47) hx hb hts ii_X12_readBookLine hown hK hP 0 rfl rfl 40 (by decide) (hts _ mm_X12_readBookLine_4) (fun _ hh => hh) rfl dX12_readBookLine_82 ?_
          refine zz_top (v := (nI gn)) (by show st 0 40 = _; rw [hn0]) ?_
          refine lv_bipush (v := 40) hx hb dX12_readBookLine_85 (by decide) ?_
          refine lv_icmp_ne (tgt := 96) hx hb dX12_readBookLine_87 (by decide) (fun c14 => ?_) (fun c14 => ?_)
          · have c14 : ¬ gn = 40 := fun hh => c14 ((nI_eq (a := gn) (b := 40) (by omega) (by omega)).mpr hh)
            refine lv_iconst (v := 5) hx hb dX12_readBookLine_96 (by decide) ?_
            refine lv_aload_n hx hb dX12_readBookLine_97 rfl (lv_at hl 3 rfl) ?_
            refine va_get (D := (dC, dI)) (ci := 11) (v := .int (st 0 40)) (C := RX12) (T := TX12) (N := 47) hx hb hts ii_X12_readBookLine hown hK hP 0 rfl rfl 40 (by decide) (hts _ mm_X12_readBookLine_4) (fun _ hh => hh) rfl dX12_readBookLine_98 ?_
            refine zz_top (v := (nI gn)) (by show st 0 40 = _; rw [hn0]) ?_
            refine lv_imul hx hb dX12_readBookLine_101 ?_
            refine zz_top (v := nI (5 * gn)) (nI_mul 5 gn) ?_
            refine lv_istore (lv' := [(4, .int (nI (5 * gn))), (3, .int (nI n31)), (2, .int (-1)), (1, .int 0), (0, .ref (ar 0))]) hx hb dX12_readBookLine_102 hl (by decide) rfl (fun ls hl => ?_)
            refine lv_iload_n hx hb dX12_readBookLine_104 rfl (lv_at hl 3 rfl) ?_
            refine lv_if_eq (tgt := 130) hx hb dX12_readBookLine_105 (by decide) (fun _ => ?_) (fun cc => absurd (by decide) cc)
            refine lv_aload_n hx hb dX12_readBookLine_130 rfl (lv_at hl 4 rfl) ?_
            refine va_get (D := (dC, dI)) (ci := 11) (v := .ref (ar 14)) (C := RX12) (T := TX12) (N := 47) hx hb hts ii_X12_readBookLine hown hK hP 0 rfl rfl 38 (by decide) (hts _ mm_X12_readBookLine_5) (fun _ hh => hh) rfl dX12_readBookLine_131 ?_
            refine lv_iload hx hb dX12_readBookLine_134 (lv_at hl 0 rfl) ?_
            refine lv_iconst (v := 1) hx hb dX12_readBookLine_136 (by decide) ?_
            refine lv_iadd hx hb dX12_readBookLine_137 ?_
            refine zz_top (v := nI ((5 * gn) + 1)) (nI_add (5 * gn) 1) ?_
            refine lv_iload_n hx hb dX12_readBookLine_138 rfl (lv_at hl 2 rfl) ?_
            refine lv_iconst (v := (-1)) hx hb dX12_readBookLine_139 (by decide) ?_
            refine lv_icmp_ne (tgt := 147) hx hb dX12_readBookLine_140 (by decide) (fun cc => absurd (by decide) cc) (fun _ => ?_)
            refine lv_iload_n hx hb dX12_readBookLine_143 rfl (lv_at hl 1 rfl) ?_
            refine lv_goto (tgt := 148) hx hb dX12_readBookLine_144 (by decide) ?_
            refine va_iast hx hb hK hP (mD hN _ _ _ _) hS 14 13 rfl rfl (i := (nI ((5 * gn) + 1))) (vp_in_nI (by omega) (by decide)) dX12_readBookLine_148 (fun H locs hP _ hS => ?_)
            rw [nI_clamp (by omega)] at hP
            have hP : va_P (dC, dI) vwCl (mw ar cy (up2 st 14 ((5 * gn) + 1) (nI n31)) sl) H := hP
            obtain ⟨st36, est36⟩ : ∃ y, y = up2 st 14 ((5 * gn) + 1) (nI n31) := ⟨_, rfl⟩
            have hG : MG [1, 2, 3, 6, 7, 8, 9, 10, 11, 12, 14, 15, 19, 20, 21, 22] st st36 := by rw [est36]; exact hG.up (rz (mr_14_1_197 ((5 * gn) + 1) (by omega) (by omega))) (pn (pcl_14_1_197 ((5 * gn) + 1) (by omega) (by omega)) (by decide))
            rw [← est36] at hP
            refine lv_aload_n hx hb dX12_readBookLine_149 rfl (lv_at hl 4 rfl) ?_
            refine va_callv (va_runV (As := []) (rest := []) ⟨hx, hb, hml, hown, hts⟩ (m_go l dC dI ar cy _ hN st36 sl ga gb  hG.1 ((⟨by rw [est36, up2_ne (r := 14) (k := ((5 * gn) + 1)) (a := 0) (j := 5) _ _ (by omega), hT.1], by rw [est36, up2_ne (r := 14) (k := ((5 * gn) + 1)) (a := 0) (j := 3) _ _ (by omega), hT.2.1], by omega, by omega⟩ : TS st36 ga gb))) (cwV 0 hts gX12_readBookLine_X12_go rfl rfl rfl (by decide +kernel) ⟨Nat.le_of_ble_eq_true rfl, Nat.le_of_ble_eq_true rfl⟩) ⟨fun a U g mk q => ⟨q.1, mPre.blind q.2⟩, va_recv hK hP (ci := 11) (q0 := 0) rfl rfl, fun U hU hW => ⟨rfl, mPre.of hP hK hU hW⟩⟩ rfl rfl hl.1 rfl (lv_room (Nat.le_of_ble_eq_true rfl)) dX12_readBookLine_150 ⟨Nat.le_of_ble_eq_true rfl, Nat.le_of_ble_eq_true rfl⟩) hS (fun q _ h => MA.le hS.1 q h) (MA.le hS.1) (fun x t H locs ht hvm hw hB _ _ hS => ?_)
            have hP := mB.at ht hB
            clear hB ht hvm
            obtain ⟨st38, sl39⟩ := x
            obtain ⟨hG2, hL2, hw⟩ := hw
            have hL : LQ [7, 9] sl sl39 := hL.tr hL2 (by decide)
            clear hL2
            dsimp only at hw
            have hP : va_P (dC, dI) vwCl (mw ar cy st38 sl39) _ := hP
            have hG : MG [1, 2, 3, 6, 7, 8, 9, 10, 11, 12, 14, 15, 19, 20, 21, 22] st st38 := hG.tr hG2 (by decide)
            have hGst38 : MG [1, 2, 3, 6, 7, 8, 9, 10, 11, 12, 13, 14, 15, 16, 19, 20, 21, 22, 23] st36 st38 := hG2
            clear hG2
            obtain ⟨n40, hf41, hf42, hf43⟩ := hw
            have hf41c := hf41.2.2.1
            have hf41d := hf41.2.2.2
            refine lv_iload_n hx hb dX12_readBookLine_153 rfl (lv_at hl 2 rfl) ?_
            refine lv_iconst (v := (-1)) hx hb dX12_readBookLine_154 (by decide) ?_
            refine lv_icmp_ne (tgt := 170) hx hb dX12_readBookLine_155 (by decide) (fun cc => absurd (by decide) cc) (fun _ => ?_)
            refine lv_aload_n hx hb dX12_readBookLine_158 rfl (lv_at hl 4 rfl) ?_
            refine lv_iload hx hb dX12_readBookLine_159 (lv_at hl 0 rfl) ?_
            refine va_calli (va_runV (As := [.int (nI (5 * gn))]) (rest := []) ⟨hx, hb, hml, hown, hts⟩ (m_readPersonDoes l dC dI ar cy _ hN st38 sl39 (5 * gn) n40 gb (by omega) hG.1 ((⟨by rw [hf41.1], by rw [hf41.2.1], by omega, by omega⟩ : TS st38 n40 gb))) (cwV 1 hts gX12_readBookLine_X12_readPersonDoes rfl rfl rfl (by decide +kernel) ⟨Nat.le_of_ble_eq_true rfl, Nat.le_of_ble_eq_true rfl⟩) ⟨fun a U g mk q => ⟨q.1, mPre.blind q.2⟩, va_recv hK hP (ci := 11) (q0 := 0) rfl rfl, fun U hU hW => ⟨rfl, mPre.of hP hK hU hW⟩⟩ rfl rfl hl.1 rfl (lv_room (Nat.le_of_ble_eq_true rfl)) dX12_readBookLine_161 ⟨Nat.le_of_ble_eq_true rfl, Nat.le_of_ble_eq_true rfl⟩) hS (fun q _ h => MA.le hS.1 q h) (MA.le hS.1) (fun r44 x t H locs ht hvm hw hB _ _ hS => ?_)
            have hP := mB.at ht hB
            clear hB ht hvm
            obtain ⟨st45, sl46⟩ := x
            obtain ⟨hG2, hL2, hw⟩ := hw
            have hL : LQ [7, 9] sl sl46 := hL.tr hL2 (by decide)
            clear hL2
            dsimp only at hw
            have hP : va_P (dC, dI) vwCl (mw ar cy st45 sl46) _ := hP
            have hG : MG [1, 2, 3, 6, 7, 8, 9, 10, 11, 12, 14, 15, 19, 20, 21, 22] st st45 := hG.tr hG2 (by decide)
            have hGst45 : MG [1, 2, 3, 6, 7, 8, 9, 10, 11, 12, 14, 15, 19, 20, 21, 22] st38 st45 := hG2
            clear hG2
            rcases hw with ⟨n47, n48, rfl, hf49, hf50, hf51, hf52, hf53, hf54, hf55, hf56⟩ | rfl
            · have hf49c := hf49.2.2.1
              have hf49d := hf49.2.2.2
              rw [hGst38.2 14 ((5 * gn) + 1) (show (13 : Nat) ∈ _ by decide), est36, up2_same] at hf53
              refine lv_if_eq (tgt := 190) hx hb dX12_readBookLine_164 (by decide) (fun cc => absurd cc (by decide)) (fun _ => ?_)
              refine lv_goto (tgt := 179) hx hb dX12_readBookLine_167 (by decide) ?_
              refine lv_aload_n hx hb dX12_readBookLine_179 rfl (lv_at hl 4 rfl) ?_
              refine va_calli (va_runV (As := []) (rest := []) ⟨hx, hb, hml, hown, hts⟩ (m_readEnd l dC dI ar cy _ hN st45 sl46 n47 gb  hG.1 ((⟨by rw [hf49.1], by rw [hf49.2.1], by omega, by omega⟩ : TS st45 n47 gb))) (cwV 0 hts gX12_readBookLine_X12_readEnd rfl rfl rfl (by decide +kernel) ⟨Nat.le_of_ble_eq_true rfl, Nat.le_of_ble_eq_true rfl⟩) ⟨fun a U g mk q => ⟨q.1, mPre.blind q.2⟩, va_recv hK hP (ci := 11) (q0 := 0) rfl rfl, fun U hU hW => ⟨rfl, mPre.of hP hK hU hW⟩⟩ rfl rfl hl.1 rfl (lv_room (Nat.le_of_ble_eq_true rfl)) dX12_readBookLine_180 ⟨Nat.le_of_ble_eq_true rfl, Nat.le_of_ble_eq_true rfl⟩) hS (fun q _ h => MA.le hS.1 q h) (MA.le hS.1) (fun r57 x t H locs ht hvm hw hB _ _ hS => ?_)
              have hP := mB.at ht hB
              clear hB ht hvm
              obtain ⟨st58, sl59⟩ := x
              obtain ⟨hG2, hL2, hw⟩ := hw
              have hL : LQ [7, 9] sl sl59 := hL.tr hL2 (by decide)
              clear hL2
              dsimp only at hw
              have hP : va_P (dC, dI) vwCl (mw ar cy st58 sl59) _ := hP
              have hG : MG [1, 2, 3, 6, 7, 8, 9, 10, 11, 12, 14, 15, 19, 20, 21, 22] st st58 := hG.tr hG2 (by decide)
              have hGst58 : MG [1, 2, 3, 6, 7, 8, 9, 10, 11, 12, 13, 14, 15, 19, 20, 21, 22] st45 st58 := hG2
              clear hG2
              rcases hw with ⟨n60, rfl, hf61, hf62, hf63, hf64⟩ | rfl
              · have hf61c := hf61.2.2.1
                have hf61d := hf61.2.2.2
                have hpr := hf51 hf64
                refine lv_if_eq (tgt := 190) hx hb dX12_readBookLine_183 (by decide) (fun cc => absurd cc (by decide)) (fun _ => ?_)
                refine lv_iconst (v := 1) hx hb dX12_readBookLine_186 (by decide) ?_
                refine lv_goto (tgt := 191) hx hb dX12_readBookLine_187 (by decide) ?_
                have hok : lineOK (st58 14) (5 * gn) := Or.inr (Or.inr (Or.inr (Or.inr (Or.inl (⟨(show st58 14 (5 * gn) = 4 by rw [hGst58.2 14 (5 * gn) (show (13 : Nat) ∈ _ by decide), hf52]), ⟨n31, by omega, by show st58 14 ((5 * gn) + 1) = _; rw [hGst58.2 14 ((5 * gn) + 1) (show (13 : Nat) ∈ _ by decide), hf53]⟩, n48, by omega, by show st58 14 ((5 * gn) + 2) = _; rw [hGst58.2 14 ((5 * gn) + 2) (show (13 : Nat) ∈ _ by decide), hf54]⟩)))))
                have hpx : ∀ j, j < 5 * gn → st58 14 j = st 14 j := fun jj hk => by show st58 14 jj = st 14 jj; rw [hGst58.2 14 jj (show (13 : Nat) ∈ _ by decide), hf56 jj (by omega), hGst38.2 14 jj (show (13 : Nat) ∈ _ by decide), est36, up2_ne (r := 14) (k := ((5 * gn) + 1)) (a := 14) (j := jj) _ _ (by omega)]
                exact W.zret (v := 1) hx hb hr rfl (fun t ht hW => ⟨⟨1, (st58, sl59), rfl, ⟨hG, hL, Or.inl ⟨n60, rfl, (show TS st58 n60 gb from ⟨by rw [hf61.1], by rw [hf61.2.1], by omega, by omega⟩), by omega, LI.more hLI hpx hok, by omega⟩⟩, mB.of ht hP⟩, hS.F ht⟩) hS.2.2 dX12_readBookLine_191
              · refine lv_if_eq (tgt := 190) hx hb dX12_readBookLine_183 (by decide) (fun _ => ?_) (fun cc => absurd (by decide) cc)
                refine lv_iconst (v := 0) hx hb dX12_readBookLine_190 (by decide) ?_
                exact W.zret (v := 0) hx hb hr rfl (fun t ht hW => ⟨⟨0, (st58, sl59), rfl, ⟨hG, hL, Or.inr (rfl)⟩, mB.of ht hP⟩, hS.F ht⟩) hS.2.2 dX12_readBookLine_191
            · refine lv_if_eq (tgt := 190) hx hb dX12_readBookLine_164 (by decide) (fun _ => ?_) (fun cc => absurd (by decide) cc)
              refine lv_iconst (v := 0) hx hb dX12_readBookLine_190 (by decide) ?_
              exact W.zret (v := 0) hx hb hr rfl (fun t ht hW => ⟨⟨0, (st45, sl46), rfl, ⟨hG, hL, Or.inr (rfl)⟩, mB.of ht hP⟩, hS.F ht⟩) hS.2.2 dX12_readBookLine_191
          · have c14 : gn = 40 := (nI_eq (a := gn) (b := 40) (by omega) (by omega)).mp c14
            refine lv_aload_n hx hb dX12_readBookLine_90 rfl (lv_at hl 3 rfl) ?_
            refine lv_iconst (v := 4) hx hb dX12_readBookLine_91 (by decide) ?_
            refine va_calli (va_runV (As := [.int 4]) (rest := []) ⟨hx, hb, hml, hown, hts⟩ (m_bad l dC dI ar cy _ hN st sl 4  hG.1) (cwV 1 hts gX12_readBookLine_X12_bad rfl rfl rfl (by decide +kernel) ⟨Nat.le_of_ble_eq_true rfl, Nat.le_of_ble_eq_true rfl⟩) ⟨fun a U g mk q => ⟨q.1, mPre.blind q.2⟩, va_recv hK hP (ci := 11) (q0 := 0) rfl rfl, fun U hU hW => ⟨rfl, mPre.of hP hK hU hW⟩⟩ rfl rfl hl.1 rfl (lv_room (Nat.le_of_ble_eq_true rfl)) dX12_readBookLine_92 ⟨Nat.le_of_ble_eq_true rfl, Nat.le_of_ble_eq_true rfl⟩) hS (fun q _ h => MA.le hS.1 q h) (MA.le hS.1) (fun r65 x t H locs ht hvm hw hB _ _ hS => ?_)
            have hP := mB.at ht hB
            clear hB ht hvm
            obtain ⟨st66, sl67⟩ := x
            obtain ⟨hG2, hL2, hw⟩ := hw
            have hL : LQ [7, 9] sl sl67 := hL.tr hL2 (by decide)
            clear hL2
            have hP : va_P (dC, dI) vwCl (mw ar cy st66 sl67) _ := hP
            have hG : MG [1, 2, 3, 6, 7, 8, 9, 10, 11, 12, 14, 15, 19, 20, 21, 22] st st66 := hG.tr hG2 (by decide)
            have hGst66 : MG [1, 2, 3, 4, 5, 6, 7, 8, 9, 10, 11, 12, 13, 14, 15, 16, 17, 19, 20, 21, 22] st st66 := hG2
            clear hG2
            obtain rfl := hw
            exact W.zret (v := 0) hx hb hr rfl (fun t ht hW => ⟨⟨0, (st66, sl67), rfl, ⟨hG, hL, Or.inr (rfl)⟩, mB.of ht hP⟩, hS.F ht⟩) hS.2.2 dX12_readBookLine_95
      · refine lv_istore_n (lv' := [(2, .int (nI n26)), (3, .int (-1)), (1, .int 0), (0, .ref (ar 0))]) hx hb dX12_readBookLine_45 rfl hl (by decide) rfl (fun ls hl => ?_)
        refine lv_aload_n hx hb dX12_readBookLine_46 rfl (lv_at hl 3 rfl) ?_
        refine va_get (D := (dC, dI)) (ci := 11) (v := .ref (ar 7)) (C := RX12) (T := TX12) (N := 47) hx hb hts ii_X12_readBookLine hown hK hP 0 rfl rfl 19 (by decide) (hts _ mm_X12_readBookLine_1) (fun _ hh => hh) rfl dX12_readBookLine_47 ?_
        refine lv_iconst (v := 5) hx hb dX12_readBookLine_50 (by decide) ?_
        refine lv_aload_n hx hb dX12_readBookLine_51 rfl (lv_at hl 3 rfl) ?_
        refine va_get (D := (dC, dI)) (ci := 11) (v := .ref (ar 2)) (C := RX12) (T := TX12) (N := 47) hx hb hts ii_X12_readBookLine hown hK hP 0 rfl rfl 14 (by decide) (hts _ mm_X12_readBookLine_2) (fun _ hh => hh) rfl dX12_readBookLine_52 ?_
        refine lv_iconst (v := 1) hx hb dX12_readBookLine_55 (by decide) ?_
        refine va_iald hx hb hK hP 2 1 rfl rfl (i := 1) (zz_in (by decide)) dX12_readBookLine_56 ?_
        obtain ⟨n68, hn68, en68⟩ := hG.1.at (r := 2) (k := 1) (by decide : mr 2 1 = 9) (by decide)
        refine zz_top (v := nI n68) (by exact en68) ?_
        refine lv_aload_n hx hb dX12_readBookLine_57 rfl (lv_at hl 3 rfl) ?_
        refine va_get (D := (dC, dI)) (ci := 11) (v := .long (sl 0 12)) (C := RX12) (T := TX12) (N := 47) hx hb hts ii_X12_readBookLine hown hK hP 0 rfl rfl 12 (by decide) (hts _ mm_X12_readBookLine_3) (fun _ hh => hh) rfl dX12_readBookLine_58 ?_
        refine lv_topl (fun z69 ez69 => ?_)
        clear ez69
        refine va_calli (va_runS (As := [.ref (ar 7), .int 5, .int (nI n68), .long z69]) (rest := []) ⟨hx, hb, hml, hown, hts⟩ (m_findIn7 l dC dI ar cy _ hN st sl 5 n68 z69 (by omega) (by omega) hG.1 (by omega)) (va_cwS 4 hts gX12_readBookLine_X12_findIn rfl rfl rfl (by decide +kernel) ⟨Nat.le_of_ble_eq_true rfl, Nat.le_of_ble_eq_true rfl⟩) ⟨fun a U g mk q => ⟨q.1, mPre.blind q.2⟩, fun U hU hW => ⟨rfl, mPre.of hP hK hU hW⟩⟩ rfl rfl hl.1 rfl (lv_room (Nat.le_of_ble_eq_true rfl)) dX12_readBookLine_61 ⟨Nat.le_of_ble_eq_true rfl, Nat.le_of_ble_eq_true rfl⟩) hS (fun q _ h => MA.le hS.1 q h) (MA.le hS.1) (fun r70 x t H locs ht hvm hw hB _ _ hS => ?_)
        have hP := mB.at ht hB
        clear hB ht hvm
        obtain ⟨rfl, hw⟩ := hw
        have hP : va_P (dC, dI) vwCl (mw ar cy st sl) _ := hP
        rcases hw with rfl | ⟨n71, rfl, hf72⟩
        · refine lv_istore_n (lv' := [(3, .int (-1)), (2, .int (nI n26)), (1, .int 0), (0, .ref (ar 0))]) hx hb dX12_readBookLine_64 rfl hl (by decide) rfl (fun ls hl => ?_)
          refine lv_iload_n hx hb dX12_readBookLine_65 rfl (lv_at hl 1 rfl) ?_
          refine lv_iconst (v := (-1)) hx hb dX12_readBookLine_66 (by decide) ?_
          refine lv_icmp_ne (tgt := 81) hx hb dX12_readBookLine_67 (by decide) (fun _ => ?_) (fun cc => absurd cc (nI_nem (by omega)))
          refine lv_aload_n hx hb dX12_readBookLine_81 rfl (lv_at hl 3 rfl) ?_
          refine va_get (D := (dC, dI)) (ci := 11) (v := .int (st 0 40)) (C := RX12) (T := TX12) (N := 47) hx hb hts ii_X12_readBookLine hown hK hP 0 rfl rfl 40 (by decide) (hts _ mm_X12_readBookLine_4) (fun _ hh => hh) rfl dX12_readBookLine_82 ?_
          refine zz_top (v := (nI gn)) (by show st 0 40 = _; rw [hn0]) ?_
          refine lv_bipush (v := 40) hx hb dX12_readBookLine_85 (by decide) ?_
          refine lv_icmp_ne (tgt := 96) hx hb dX12_readBookLine_87 (by decide) (fun c23 => ?_) (fun c23 => ?_)
          · have c23 : ¬ gn = 40 := fun hh => c23 ((nI_eq (a := gn) (b := 40) (by omega) (by omega)).mpr hh)
            refine lv_iconst (v := 5) hx hb dX12_readBookLine_96 (by decide) ?_
            refine lv_aload_n hx hb dX12_readBookLine_97 rfl (lv_at hl 3 rfl) ?_
            refine va_get (D := (dC, dI)) (ci := 11) (v := .int (st 0 40)) (C := RX12) (T := TX12) (N := 47) hx hb hts ii_X12_readBookLine hown hK hP 0 rfl rfl 40 (by decide) (hts _ mm_X12_readBookLine_4) (fun _ hh => hh) rfl dX12_readBookLine_98 ?_
            refine zz_top (v := (nI gn)) (by show st 0 40 = _; rw [hn0]) ?_
            refine lv_imul hx hb dX12_readBookLine_101 ?_
            refine zz_top (v := nI (5 * gn)) (nI_mul 5 gn) ?_
            refine lv_istore (lv' := [(4, .int (nI (5 * gn))), (3, .int (-1)), (2, .int (nI n26)), (1, .int 0), (0, .ref (ar 0))]) hx hb dX12_readBookLine_102 hl (by decide) rfl (fun ls hl => ?_)
            refine lv_iload_n hx hb dX12_readBookLine_104 rfl (lv_at hl 3 rfl) ?_
            refine lv_if_eq (tgt := 130) hx hb dX12_readBookLine_105 (by decide) (fun _ => ?_) (fun cc => absurd (by decide) cc)
            refine lv_aload_n hx hb dX12_readBookLine_130 rfl (lv_at hl 4 rfl) ?_
            refine va_get (D := (dC, dI)) (ci := 11) (v := .ref (ar 14)) (C := RX12) (T := TX12) (N := 47) hx hb hts ii_X12_readBookLine hown hK hP 0 rfl rfl 38 (by decide) (hts _ mm_X12_readBookLine_5) (fun _ hh => hh) rfl dX12_readBookLine_131 ?_
            refine lv_iload hx hb dX12_readBookLine_134 (lv_at hl 0 rfl) ?_
            refine lv_iconst (v := 1) hx hb dX12_readBookLine_136 (by decide) ?_
            refine lv_iadd hx hb dX12_readBookLine_137 ?_
            refine zz_top (v := nI ((5 * gn) + 1)) (nI_add (5 * gn) 1) ?_
            refine lv_iload_n hx hb dX12_readBookLine_138 rfl (lv_at hl 2 rfl) ?_
            refine lv_iconst (v := (-1)) hx hb dX12_readBookLine_139 (by decide) ?_
            refine lv_icmp_ne (tgt := 147) hx hb dX12_readBookLine_140 (by decide) (fun _ => ?_) (fun cc => absurd cc (nI_nem (by omega)))
            refine lv_iload_n hx hb dX12_readBookLine_147 rfl (lv_at hl 2 rfl) ?_
            refine va_iast hx hb hK hP (mD hN _ _ _ _) hS 14 13 rfl rfl (i := (nI ((5 * gn) + 1))) (vp_in_nI (by omega) (by decide)) dX12_readBookLine_148 (fun H locs hP _ hS => ?_)
            rw [nI_clamp (by omega)] at hP
            have hP : va_P (dC, dI) vwCl (mw ar cy (up2 st 14 ((5 * gn) + 1) (nI n26)) sl) H := hP
            obtain ⟨st73, est73⟩ : ∃ y, y = up2 st 14 ((5 * gn) + 1) (nI n26) := ⟨_, rfl⟩
            have hG : MG [1, 2, 3, 6, 7, 8, 9, 10, 11, 12, 14, 15, 19, 20, 21, 22] st st73 := by rw [est73]; exact hG.up (rz (mr_14_1_197 ((5 * gn) + 1) (by omega) (by omega))) (pn (pcl_14_1_197 ((5 * gn) + 1) (by omega) (by omega)) (by decide))
            rw [← est73] at hP
            refine lv_aload_n hx hb dX12_readBookLine_149 rfl (lv_at hl 4 rfl) ?_
            refine va_callv (va_runV (As := []) (rest := []) ⟨hx, hb, hml, hown, hts⟩ (m_go l dC dI ar cy _ hN st73 sl ga gb  hG.1 ((⟨by rw [est73, up2_ne (r := 14) (k := ((5 * gn) + 1)) (a := 0) (j := 5) _ _ (by omega), hT.1], by rw [est73, up2_ne (r := 14) (k := ((5 * gn) + 1)) (a := 0) (j := 3) _ _ (by omega), hT.2.1], by omega, by omega⟩ : TS st73 ga gb))) (cwV 0 hts gX12_readBookLine_X12_go rfl rfl rfl (by decide +kernel) ⟨Nat.le_of_ble_eq_true rfl, Nat.le_of_ble_eq_true rfl⟩) ⟨fun a U g mk q => ⟨q.1, mPre.blind q.2⟩, va_recv hK hP (ci := 11) (q0 := 0) rfl rfl, fun U hU hW => ⟨rfl, mPre.of hP hK hU hW⟩⟩ rfl rfl hl.1 rfl (lv_room (Nat.le_of_ble_eq_true rfl)) dX12_readBookLine_150 ⟨Nat.le_of_ble_eq_true rfl, Nat.le_of_ble_eq_true rfl⟩) hS (fun q _ h => MA.le hS.1 q h) (MA.le hS.1) (fun x t H locs ht hvm hw hB _ _ hS => ?_)
            have hP := mB.at ht hB
            clear hB ht hvm
            obtain ⟨st75, sl76⟩ := x
            obtain ⟨hG2, hL2, hw⟩ := hw
            have hL : LQ [7, 9] sl sl76 := hL.tr hL2 (by decide)
            clear hL2
            dsimp only at hw
            have hP : va_P (dC, dI) vwCl (mw ar cy st75 sl76) _ := hP
            have hG : MG [1, 2, 3, 6, 7, 8, 9, 10, 11, 12, 14, 15, 19, 20, 21, 22] st st75 := hG.tr hG2 (by decide)
            have hGst75 : MG [1, 2, 3, 6, 7, 8, 9, 10, 11, 12, 13, 14, 15, 16, 19, 20, 21, 22, 23] st73 st75 := hG2
            clear hG2
            obtain ⟨n77, hf78, hf79, hf80⟩ := hw
            have hf78c := hf78.2.2.1
            have hf78d := hf78.2.2.2
            refine lv_iload_n hx hb dX12_readBookLine_153 rfl (lv_at hl 2 rfl) ?_
            refine lv_iconst (v := (-1)) hx hb dX12_readBookLine_154 (by decide) ?_
            refine lv_icmp_ne (tgt := 170) hx hb dX12_readBookLine_155 (by decide) (fun _ => ?_) (fun cc => absurd cc (nI_nem (by omega)))
            refine lv_aload_n hx hb dX12_readBookLine_170 rfl (lv_at hl 4 rfl) ?_
            refine lv_iload hx hb dX12_readBookLine_171 (lv_at hl 0 rfl) ?_
            refine va_calli (va_runV (As := [.int (nI (5 * gn))]) (rest := []) ⟨hx, hb, hml, hown, hts⟩ (m_readDogDoes l dC dI ar cy _ hN st75 sl76 (5 * gn) n77 gb (by omega) hG.1 ((⟨by rw [hf78.1], by rw [hf78.2.1], by omega, by omega⟩ : TS st75 n77 gb))) (cwV 1 hts gX12_readBookLine_X12_readDogDoes rfl rfl rfl (by decide +kernel) ⟨Nat.le_of_ble_eq_true rfl, Nat.le_of_ble_eq_true rfl⟩) ⟨fun a U g mk q => ⟨q.1, mPre.blind q.2⟩, va_recv hK hP (ci := 11) (q0 := 0) rfl rfl, fun U hU hW => ⟨rfl, mPre.of hP hK hU hW⟩⟩ rfl rfl hl.1 rfl (lv_room (Nat.le_of_ble_eq_true rfl)) dX12_readBookLine_173 ⟨Nat.le_of_ble_eq_true rfl, Nat.le_of_ble_eq_true rfl⟩) hS (fun q _ h => MA.le hS.1 q h) (MA.le hS.1) (fun r81 x t H locs ht hvm hw hB _ _ hS => ?_)
            have hP := mB.at ht hB
            clear hB ht hvm
            obtain ⟨st82, sl83⟩ := x
            obtain ⟨hG2, hL2, hw⟩ := hw
            have hL : LQ [7, 9] sl sl83 := hL.tr hL2 (by decide)
            clear hL2
            dsimp only at hw
            have hP : va_P (dC, dI) vwCl (mw ar cy st82 sl83) _ := hP
            have hG : MG [1, 2, 3, 6, 7, 8, 9, 10, 11, 12, 14, 15, 19, 20, 21, 22] st st82 := hG.tr hG2 (by decide)
            have hGst82 : MG [1, 2, 3, 6, 7, 8, 9, 10, 11, 12, 14, 15, 19, 20, 21, 22] st75 st82 := hG2
            clear hG2
            rcases hw with ⟨n84, rfl, hf85, hf86, hf87, hf88, hf89⟩ | rfl
            · have hf85c := hf85.2.2.1
              have hf85d := hf85.2.2.2
              refine lv_if_eq (tgt := 190) hx hb dX12_readBookLine_176 (by decide) (fun cc => absurd cc (by decide)) (fun _ => ?_)
              refine lv_aload_n hx hb dX12_readBookLine_179 rfl (lv_at hl 4 rfl) ?_
              refine va_calli (va_runV (As := []) (rest := []) ⟨hx, hb, hml, hown, hts⟩ (m_readEnd l dC dI ar cy _ hN st82 sl83 n84 gb  hG.1 ((⟨by rw [hf85.1], by rw [hf85.2.1], by omega, by omega⟩ : TS st82 n84 gb))) (cwV 0 hts gX12_readBookLine_X12_readEnd rfl rfl rfl (by decide +kernel) ⟨Nat.le_of_ble_eq_true rfl, Nat.le_of_ble_eq_true rfl⟩) ⟨fun a U g mk q => ⟨q.1, mPre.blind q.2⟩, va_recv hK hP (ci := 11) (q0 := 0) rfl rfl, fun U hU hW => ⟨rfl, mPre.of hP hK hU hW⟩⟩ rfl rfl hl.1 rfl (lv_room (Nat.le_of_ble_eq_true rfl)) dX12_readBookLine_180 ⟨Nat.le_of_ble_eq_true rfl, Nat.le_of_ble_eq_true rfl⟩) hS (fun q _ h => MA.le hS.1 q h) (MA.le hS.1) (fun r90 x t H locs ht hvm hw hB _ _ hS => ?_)
              have hP := mB.at ht hB
              clear hB ht hvm
              obtain ⟨st91, sl92⟩ := x
              obtain ⟨hG2, hL2, hw⟩ := hw
              have hL : LQ [7, 9] sl sl92 := hL.tr hL2 (by decide)
              clear hL2
              dsimp only at hw
              have hP : va_P (dC, dI) vwCl (mw ar cy st91 sl92) _ := hP
              have hG : MG [1, 2, 3, 6, 7, 8, 9, 10, 11, 12, 14, 15, 19, 20, 21, 22] st st91 := hG.tr hG2 (by decide)
              have hGst91 : MG [1, 2, 3, 6, 7, 8, 9, 10, 11, 12, 13, 14, 15, 19, 20, 21, 22] st82 st91 := hG2
              clear hG2
              rcases hw with ⟨n93, rfl, hf94, hf95, hf96, hf97⟩ | rfl
              · have hf94c := hf94.2.2.1
                have hf94d := hf94.2.2.2
                have hpr := hf87 hf97
                refine lv_if_eq (tgt := 190) hx hb dX12_readBookLine_183 (by decide) (fun cc => absurd cc (by decide)) (fun _ => ?_)
                refine lv_iconst (v := 1) hx hb dX12_readBookLine_186 (by decide) ?_
                refine lv_goto (tgt := 191) hx hb dX12_readBookLine_187 (by decide) ?_
                have hok : lineOK (st91 14) (5 * gn) := Or.inr (Or.inr (Or.inr (Or.inl ((show st91 14 (5 * gn) = 3 by rw [hGst91.2 14 (5 * gn) (show (13 : Nat) ∈ _ by decide), hf88])))))
                have hpx : ∀ j, j < 5 * gn → st91 14 j = st 14 j := fun jj hk => by show st91 14 jj = st 14 jj; rw [hGst91.2 14 jj (show (13 : Nat) ∈ _ by decide), hf89 jj (by omega), hGst75.2 14 jj (show (13 : Nat) ∈ _ by decide), est73, up2_ne (r := 14) (k := ((5 * gn) + 1)) (a := 14) (j := jj) _ _ (by omega)]
                exact W.zret (v := 1) hx hb hr rfl (fun t ht hW => ⟨⟨1, (st91, sl92), rfl, ⟨hG, hL, Or.inl ⟨n93, rfl, (show TS st91 n93 gb from ⟨by rw [hf94.1], by rw [hf94.2.1], by omega, by omega⟩), by omega, LI.more hLI hpx hok, by omega⟩⟩, mB.of ht hP⟩, hS.F ht⟩) hS.2.2 dX12_readBookLine_191
              · refine lv_if_eq (tgt := 190) hx hb dX12_readBookLine_183 (by decide) (fun _ => ?_) (fun cc => absurd (by decide) cc)
                refine lv_iconst (v := 0) hx hb dX12_readBookLine_190 (by decide) ?_
                exact W.zret (v := 0) hx hb hr rfl (fun t ht hW => ⟨⟨0, (st91, sl92), rfl, ⟨hG, hL, Or.inr (rfl)⟩, mB.of ht hP⟩, hS.F ht⟩) hS.2.2 dX12_readBookLine_191
            · refine lv_if_eq (tgt := 190) hx hb dX12_readBookLine_176 (by decide) (fun _ => ?_) (fun cc => absurd (by decide) cc)
              refine lv_iconst (v := 0) hx hb dX12_readBookLine_190 (by decide) ?_
              exact W.zret (v := 0) hx hb hr rfl (fun t ht hW => ⟨⟨0, (st82, sl83), rfl, ⟨hG, hL, Or.inr (rfl)⟩, mB.of ht hP⟩, hS.F ht⟩) hS.2.2 dX12_readBookLine_191
          · have c23 : gn = 40 := (nI_eq (a := gn) (b := 40) (by omega) (by omega)).mp c23
            refine lv_aload_n hx hb dX12_readBookLine_90 rfl (lv_at hl 3 rfl) ?_
            refine lv_iconst (v := 4) hx hb dX12_readBookLine_91 (by decide) ?_
            refine va_calli (va_runV (As := [.int 4]) (rest := []) ⟨hx, hb, hml, hown, hts⟩ (m_bad l dC dI ar cy _ hN st sl 4  hG.1) (cwV 1 hts gX12_readBookLine_X12_bad rfl rfl rfl (by decide +kernel) ⟨Nat.le_of_ble_eq_true rfl, Nat.le_of_ble_eq_true rfl⟩) ⟨fun a U g mk q => ⟨q.1, mPre.blind q.2⟩, va_recv hK hP (ci := 11) (q0 := 0) rfl rfl, fun U hU hW => ⟨rfl, mPre.of hP hK hU hW⟩⟩ rfl rfl hl.1 rfl (lv_room (Nat.le_of_ble_eq_true rfl)) dX12_readBookLine_92 ⟨Nat.le_of_ble_eq_true rfl, Nat.le_of_ble_eq_true rfl⟩) hS (fun q _ h => MA.le hS.1 q h) (MA.le hS.1) (fun r98 x t H locs ht hvm hw hB _ _ hS => ?_)
            have hP := mB.at ht hB
            clear hB ht hvm
            obtain ⟨st99, sl100⟩ := x
            obtain ⟨hG2, hL2, hw⟩ := hw
            have hL : LQ [7, 9] sl sl100 := hL.tr hL2 (by decide)
            clear hL2
            have hP : va_P (dC, dI) vwCl (mw ar cy st99 sl100) _ := hP
            have hG : MG [1, 2, 3, 6, 7, 8, 9, 10, 11, 12, 14, 15, 19, 20, 21, 22] st st99 := hG.tr hG2 (by decide)
            have hGst99 : MG [1, 2, 3, 4, 5, 6, 7, 8, 9, 10, 11, 12, 13, 14, 15, 16, 17, 19, 20, 21, 22] st st99 := hG2
            clear hG2
            obtain rfl := hw
            exact W.zret (v := 0) hx hb hr rfl (fun t ht hW => ⟨⟨0, (st99, sl100), rfl, ⟨hG, hL, Or.inr (rfl)⟩, mB.of ht hP⟩, hS.F ht⟩) hS.2.2 dX12_readBookLine_95
        · refine lv_istore_n (lv' := [(3, .int (nI n71)), (2, .int (nI n26)), (1, .int 0), (0, .ref (ar 0))]) hx hb dX12_readBookLine_64 rfl hl (by decide) rfl (fun ls hl => ?_)
          refine lv_iload_n hx hb dX12_readBookLine_65 rfl (lv_at hl 1 rfl) ?_
          refine lv_iconst (v := (-1)) hx hb dX12_readBookLine_66 (by decide) ?_
          refine lv_icmp_ne (tgt := 81) hx hb dX12_readBookLine_67 (by decide) (fun _ => ?_) (fun cc => absurd cc (nI_nem (by omega)))
          refine lv_aload_n hx hb dX12_readBookLine_81 rfl (lv_at hl 3 rfl) ?_
          refine va_get (D := (dC, dI)) (ci := 11) (v := .int (st 0 40)) (C := RX12) (T := TX12) (N := 47) hx hb hts ii_X12_readBookLine hown hK hP 0 rfl rfl 40 (by decide) (hts _ mm_X12_readBookLine_4) (fun _ hh => hh) rfl dX12_readBookLine_82 ?_
          refine zz_top (v := (nI gn)) (by show st 0 40 = _; rw [hn0]) ?_
          refine lv_bipush (v := 40) hx hb dX12_readBookLine_85 (by decide) ?_
          refine lv_icmp_ne (tgt := 96) hx hb dX12_readBookLine_87 (by decide) (fun c32 => ?_) (fun c32 => ?_)
          · have c32 : ¬ gn = 40 := fun hh => c32 ((nI_eq (a := gn) (b := 40) (by omega) (by omega)).mpr hh)
            refine lv_iconst (v := 5) hx hb dX12_readBookLine_96 (by decide) ?_
            refine lv_aload_n hx hb dX12_readBookLine_97 rfl (lv_at hl 3 rfl) ?_
            refine va_get (D := (dC, dI)) (ci := 11) (v := .int (st 0 40)) (C := RX12) (T := TX12) (N := 47) hx hb hts ii_X12_readBookLine hown hK hP 0 rfl rfl 40 (by decide) (hts _ mm_X12_readBookLine_4) (fun _ hh => hh) rfl dX12_readBookLine_98 ?_
            refine zz_top (v := (nI gn)) (by show st 0 40 = _; rw [hn0]) ?_
            refine lv_imul hx hb dX12_readBookLine_101 ?_
            refine zz_top (v := nI (5 * gn)) (nI_mul 5 gn) ?_
            refine lv_istore (lv' := [(4, .int (nI (5 * gn))), (3, .int (nI n71)), (2, .int (nI n26)), (1, .int 0), (0, .ref (ar 0))]) hx hb dX12_readBookLine_102 hl (by decide) rfl (fun ls hl => ?_)
            refine lv_iload_n hx hb dX12_readBookLine_104 rfl (lv_at hl 3 rfl) ?_
            refine lv_if_eq (tgt := 130) hx hb dX12_readBookLine_105 (by decide) (fun _ => ?_) (fun cc => absurd (by decide) cc)
            refine lv_aload_n hx hb dX12_readBookLine_130 rfl (lv_at hl 4 rfl) ?_
            refine va_get (D := (dC, dI)) (ci := 11) (v := .ref (ar 14)) (C := RX12) (T := TX12) (N := 47) hx hb hts ii_X12_readBookLine hown hK hP 0 rfl rfl 38 (by decide) (hts _ mm_X12_readBookLine_5) (fun _ hh => hh) rfl dX12_readBookLine_131 ?_
            refine lv_iload hx hb dX12_readBookLine_134 (lv_at hl 0 rfl) ?_
            refine lv_iconst (v := 1) hx hb dX12_readBookLine_136 (by decide) ?_
            refine lv_iadd hx hb dX12_readBookLine_137 ?_
            refine zz_top (v := nI ((5 * gn) + 1)) (nI_add (5 * gn) 1) ?_
            refine lv_iload_n hx hb dX12_readBookLine_138 rfl (lv_at hl 2 rfl) ?_
            refine lv_iconst (v := (-1)) hx hb dX12_readBookLine_139 (by decide) ?_
            refine lv_icmp_ne (tgt := 147) hx hb dX12_readBookLine_140 (by decide) (fun _ => ?_) (fun cc => absurd cc (nI_nem (by omega)))
            refine lv_iload_n hx hb dX12_readBookLine_147 rfl (lv_at hl 2 rfl) ?_
            refine va_iast hx hb hK hP (mD hN _ _ _ _) hS 14 13 rfl rfl (i := (nI ((5 * gn) + 1))) (vp_in_nI (by omega) (by decide)) dX12_readBookLine_148 (fun H locs hP _ hS => ?_)
            rw [nI_clamp (by omega)] at hP
            have hP : va_P (dC, dI) vwCl (mw ar cy (up2 st 14 ((5 * gn) + 1) (nI n26)) sl) H := hP
            obtain ⟨st101, est101⟩ : ∃ y, y = up2 st 14 ((5 * gn) + 1) (nI n26) := ⟨_, rfl⟩
            have hG : MG [1, 2, 3, 6, 7, 8, 9, 10, 11, 12, 14, 15, 19, 20, 21, 22] st st101 := by rw [est101]; exact hG.up (rz (mr_14_1_197 ((5 * gn) + 1) (by omega) (by omega))) (pn (pcl_14_1_197 ((5 * gn) + 1) (by omega) (by omega)) (by decide))
            rw [← est101] at hP
            refine lv_aload_n hx hb dX12_readBookLine_149 rfl (lv_at hl 4 rfl) ?_
            refine va_callv (va_runV (As := []) (rest := []) ⟨hx, hb, hml, hown, hts⟩ (m_go l dC dI ar cy _ hN st101 sl ga gb  hG.1 ((⟨by rw [est101, up2_ne (r := 14) (k := ((5 * gn) + 1)) (a := 0) (j := 5) _ _ (by omega), hT.1], by rw [est101, up2_ne (r := 14) (k := ((5 * gn) + 1)) (a := 0) (j := 3) _ _ (by omega), hT.2.1], by omega, by omega⟩ : TS st101 ga gb))) (cwV 0 hts gX12_readBookLine_X12_go rfl rfl rfl (by decide +kernel) ⟨Nat.le_of_ble_eq_true rfl, Nat.le_of_ble_eq_true rfl⟩) ⟨fun a U g mk q => ⟨q.1, mPre.blind q.2⟩, va_recv hK hP (ci := 11) (q0 := 0) rfl rfl, fun U hU hW => ⟨rfl, mPre.of hP hK hU hW⟩⟩ rfl rfl hl.1 rfl (lv_room (Nat.le_of_ble_eq_true rfl)) dX12_readBookLine_150 ⟨Nat.le_of_ble_eq_true rfl, Nat.le_of_ble_eq_true rfl⟩) hS (fun q _ h => MA.le hS.1 q h) (MA.le hS.1) (fun x t H locs ht hvm hw hB _ _ hS => ?_)
            have hP := mB.at ht hB
            clear hB ht hvm
            obtain ⟨st103, sl104⟩ := x
            obtain ⟨hG2, hL2, hw⟩ := hw
            have hL : LQ [7, 9] sl sl104 := hL.tr hL2 (by decide)
            clear hL2
            dsimp only at hw
            have hP : va_P (dC, dI) vwCl (mw ar cy st103 sl104) _ := hP
            have hG : MG [1, 2, 3, 6, 7, 8, 9, 10, 11, 12, 14, 15, 19, 20, 21, 22] st st103 := hG.tr hG2 (by decide)
            have hGst103 : MG [1, 2, 3, 6, 7, 8, 9, 10, 11, 12, 13, 14, 15, 16, 19, 20, 21, 22, 23] st101 st103 := hG2
            clear hG2
            obtain ⟨n105, hf106, hf107, hf108⟩ := hw
            have hf106c := hf106.2.2.1
            have hf106d := hf106.2.2.2
            refine lv_iload_n hx hb dX12_readBookLine_153 rfl (lv_at hl 2 rfl) ?_
            refine lv_iconst (v := (-1)) hx hb dX12_readBookLine_154 (by decide) ?_
            refine lv_icmp_ne (tgt := 170) hx hb dX12_readBookLine_155 (by decide) (fun _ => ?_) (fun cc => absurd cc (nI_nem (by omega)))
            refine lv_aload_n hx hb dX12_readBookLine_170 rfl (lv_at hl 4 rfl) ?_
            refine lv_iload hx hb dX12_readBookLine_171 (lv_at hl 0 rfl) ?_
            refine va_calli (va_runV (As := [.int (nI (5 * gn))]) (rest := []) ⟨hx, hb, hml, hown, hts⟩ (m_readDogDoes l dC dI ar cy _ hN st103 sl104 (5 * gn) n105 gb (by omega) hG.1 ((⟨by rw [hf106.1], by rw [hf106.2.1], by omega, by omega⟩ : TS st103 n105 gb))) (cwV 1 hts gX12_readBookLine_X12_readDogDoes rfl rfl rfl (by decide +kernel) ⟨Nat.le_of_ble_eq_true rfl, Nat.le_of_ble_eq_true rfl⟩) ⟨fun a U g mk q => ⟨q.1, mPre.blind q.2⟩, va_recv hK hP (ci := 11) (q0 := 0) rfl rfl, fun U hU hW => ⟨rfl, mPre.of hP hK hU hW⟩⟩ rfl rfl hl.1 rfl (lv_room (Nat.le_of_ble_eq_true rfl)) dX12_readBookLine_173 ⟨Nat.le_of_ble_eq_true rfl, Nat.le_of_ble_eq_true rfl⟩) hS (fun q _ h => MA.le hS.1 q h) (MA.le hS.1) (fun r109 x t H locs ht hvm hw hB _ _ hS => ?_)
            have hP := mB.at ht hB
            clear hB ht hvm
            obtain ⟨st110, sl111⟩ := x
            obtain ⟨hG2, hL2, hw⟩ := hw
            have hL : LQ [7, 9] sl sl111 := hL.tr hL2 (by decide)
            clear hL2
            dsimp only at hw
            have hP : va_P (dC, dI) vwCl (mw ar cy st110 sl111) _ := hP
            have hG : MG [1, 2, 3, 6, 7, 8, 9, 10, 11, 12, 14, 15, 19, 20, 21, 22] st st110 := hG.tr hG2 (by decide)
            have hGst110 : MG [1, 2, 3, 6, 7, 8, 9, 10, 11, 12, 14, 15, 19, 20, 21, 22] st103 st110 := hG2
            clear hG2
            rcases hw with ⟨n112, rfl, hf113, hf114, hf115, hf116, hf117⟩ | rfl
            · have hf113c := hf113.2.2.1
              have hf113d := hf113.2.2.2
              refine lv_if_eq (tgt := 190) hx hb dX12_readBookLine_176 (by decide) (fun cc => absurd cc (by decide)) (fun _ => ?_)
              refine lv_aload_n hx hb dX12_readBookLine_179 rfl (lv_at hl 4 rfl) ?_
              refine va_calli (va_runV (As := []) (rest := []) ⟨hx, hb, hml, hown, hts⟩ (m_readEnd l dC dI ar cy _ hN st110 sl111 n112 gb  hG.1 ((⟨by rw [hf113.1], by rw [hf113.2.1], by omega, by omega⟩ : TS st110 n112 gb))) (cwV 0 hts gX12_readBookLine_X12_readEnd rfl rfl rfl (by decide +kernel) ⟨Nat.le_of_ble_eq_true rfl, Nat.le_of_ble_eq_true rfl⟩) ⟨fun a U g mk q => ⟨q.1, mPre.blind q.2⟩, va_recv hK hP (ci := 11) (q0 := 0) rfl rfl, fun U hU hW => ⟨rfl, mPre.of hP hK hU hW⟩⟩ rfl rfl hl.1 rfl (lv_room (Nat.le_of_ble_eq_true rfl)) dX12_readBookLine_180 ⟨Nat.le_of_ble_eq_true rfl, Nat.le_of_ble_eq_true rfl⟩) hS (fun q _ h => MA.le hS.1 q h) (MA.le hS.1) (fun r118 x t H locs ht hvm hw hB _ _ hS => ?_)
              have hP := mB.at ht hB
              clear hB ht hvm
              obtain ⟨st119, sl120⟩ := x
              obtain ⟨hG2, hL2, hw⟩ := hw
              have hL : LQ [7, 9] sl sl120 := hL.tr hL2 (by decide)
              clear hL2
              dsimp only at hw
              have hP : va_P (dC, dI) vwCl (mw ar cy st119 sl120) _ := hP
              have hG : MG [1, 2, 3, 6, 7, 8, 9, 10, 11, 12, 14, 15, 19, 20, 21, 22] st st119 := hG.tr hG2 (by decide)
              have hGst119 : MG [1, 2, 3, 6, 7, 8, 9, 10, 11, 12, 13, 14, 15, 19, 20, 21, 22] st110 st119 := hG2
              clear hG2
              rcases hw with ⟨n121, rfl, hf122, hf123, hf124, hf125⟩ | rfl
              · have hf122c := hf122.2.2.1
                have hf122d := hf122.2.2.2
                have hpr := hf115 hf125
                refine lv_if_eq (tgt := 190) hx hb dX12_readBookLine_183 (by decide) (fun cc => absurd cc (by decide)) (fun _ => ?_)
                refine lv_iconst (v := 1) hx hb dX12_readBookLine_186 (by decide) ?_
                refine lv_goto (tgt := 191) hx hb dX12_readBookLine_187 (by decide) ?_
                have hok : lineOK (st119 14) (5 * gn) := Or.inr (Or.inr (Or.inr (Or.inl ((show st119 14 (5 * gn) = 3 by rw [hGst119.2 14 (5 * gn) (show (13 : Nat) ∈ _ by decide), hf116])))))
                have hpx : ∀ j, j < 5 * gn → st119 14 j = st 14 j := fun jj hk => by show st119 14 jj = st 14 jj; rw [hGst119.2 14 jj (show (13 : Nat) ∈ _ by decide), hf117 jj (by omega), hGst103.2 14 jj (show (13 : Nat) ∈ _ by decide), est101, up2_ne (r := 14) (k := ((5 * gn) + 1)) (a := 14) (j := jj) _ _ (by omega)]
                exact W.zret (v := 1) hx hb hr rfl (fun t ht hW => ⟨⟨1, (st119, sl120), rfl, ⟨hG, hL, Or.inl ⟨n121, rfl, (show TS st119 n121 gb from ⟨by rw [hf122.1], by rw [hf122.2.1], by omega, by omega⟩), by omega, LI.more hLI hpx hok, by omega⟩⟩, mB.of ht hP⟩, hS.F ht⟩) hS.2.2 dX12_readBookLine_191
              · refine lv_if_eq (tgt := 190) hx hb dX12_readBookLine_183 (by decide) (fun _ => ?_) (fun cc => absurd (by decide) cc)
                refine lv_iconst (v := 0) hx hb dX12_readBookLine_190 (by decide) ?_
                exact W.zret (v := 0) hx hb hr rfl (fun t ht hW => ⟨⟨0, (st119, sl120), rfl, ⟨hG, hL, Or.inr (rfl)⟩, mB.of ht hP⟩, hS.F ht⟩) hS.2.2 dX12_readBookLine_191
            · refine lv_if_eq (tgt := 190) hx hb dX12_readBookLine_176 (by decide) (fun _ => ?_) (fun cc => absurd (by decide) cc)
              refine lv_iconst (v := 0) hx hb dX12_readBookLine_190 (by decide) ?_
              exact W.zret (v := 0) hx hb hr rfl (fun t ht hW => ⟨⟨0, (st110, sl111), rfl, ⟨hG, hL, Or.inr (rfl)⟩, mB.of ht hP⟩, hS.F ht⟩) hS.2.2 dX12_readBookLine_191
          · have c32 : gn = 40 := (nI_eq (a := gn) (b := 40) (by omega) (by omega)).mp c32
            refine lv_aload_n hx hb dX12_readBookLine_90 rfl (lv_at hl 3 rfl) ?_
            refine lv_iconst (v := 4) hx hb dX12_readBookLine_91 (by decide) ?_
            refine va_calli (va_runV (As := [.int 4]) (rest := []) ⟨hx, hb, hml, hown, hts⟩ (m_bad l dC dI ar cy _ hN st sl 4  hG.1) (cwV 1 hts gX12_readBookLine_X12_bad rfl rfl rfl (by decide +kernel) ⟨Nat.le_of_ble_eq_true rfl, Nat.le_of_ble_eq_true rfl⟩) ⟨fun a U g mk q => ⟨q.1, mPre.blind q.2⟩, va_recv hK hP (ci := 11) (q0 := 0) rfl rfl, fun U hU hW => ⟨rfl, mPre.of hP hK hU hW⟩⟩ rfl rfl hl.1 rfl (lv_room (Nat.le_of_ble_eq_true rfl)) dX12_readBookLine_92 ⟨Nat.le_of_ble_eq_true rfl, Nat.le_of_ble_eq_true rfl⟩) hS (fun q _ h => MA.le hS.1 q h) (MA.le hS.1) (fun r126 x t H locs ht hvm hw hB _ _ hS => ?_)
            have hP := mB.at ht hB
            clear hB ht hvm
            obtain ⟨st127, sl128⟩ := x
            obtain ⟨hG2, hL2, hw⟩ := hw
            have hL : LQ [7, 9] sl sl128 := hL.tr hL2 (by decide)
            clear hL2
            have hP : va_P (dC, dI) vwCl (mw ar cy st127 sl128) _ := hP
            have hG : MG [1, 2, 3, 6, 7, 8, 9, 10, 11, 12, 14, 15, 19, 20, 21, 22] st st127 := hG.tr hG2 (by decide)
            have hGst127 : MG [1, 2, 3, 4, 5, 6, 7, 8, 9, 10, 11, 12, 13, 14, 15, 16, 17, 19, 20, 21, 22] st st127 := hG2
            clear hG2
            obtain rfl := hw
            exact W.zret (v := 0) hx hb hr rfl (fun t ht hW => ⟨⟨0, (st127, sl128), rfl, ⟨hG, hL, Or.inr (rfl)⟩, mB.of ht hP⟩, hS.F ht⟩) hS.2.2 dX12_readBookLine_95
    · refine lv_if_ne (tgt := 26) hx hb dX12_readBookLine_17 (by decide) (fun cc => absurd (by decide) cc) (fun _ => ?_)
      refine lv_aload_n hx hb dX12_readBookLine_20 rfl (lv_at hl 3 rfl) ?_
      refine lv_iconst (v := 1) hx hb dX12_readBookLine_21 (by decide) ?_
      refine va_calli (va_runV (As := [.int 1]) (rest := []) ⟨hx, hb, hml, hown, hts⟩ (m_bad l dC dI ar cy _ hN st sl 1  hG.1) (cwV 1 hts gX12_readBookLine_X12_bad rfl rfl rfl (by decide +kernel) ⟨Nat.le_of_ble_eq_true rfl, Nat.le_of_ble_eq_true rfl⟩) ⟨fun a U g mk q => ⟨q.1, mPre.blind q.2⟩, va_recv hK hP (ci := 11) (q0 := 0) rfl rfl, fun U hU hW => ⟨rfl, mPre.of hP hK hU hW⟩⟩ rfl rfl hl.1 rfl (lv_room (Nat.le_of_ble_eq_true rfl)) dX12_readBookLine_22 ⟨Nat.le_of_ble_eq_true rfl, Nat.le_of_ble_eq_true rfl⟩) hS (fun q _ h => MA.le hS.1 q h) (MA.le hS.1) (fun r129 x t H locs ht hvm hw hB _ _ hS => ?_)
      have hP := mB.at ht hB
      clear hB ht hvm
      obtain ⟨st130, sl131⟩ := x
      obtain ⟨hG2, hL2, hw⟩ := hw
      have hL : LQ [7, 9] sl sl131 := hL.tr hL2 (by decide)
      clear hL2
      have hP : va_P (dC, dI) vwCl (mw ar cy st130 sl131) _ := hP
      have hG : MG [1, 2, 3, 6, 7, 8, 9, 10, 11, 12, 14, 15, 19, 20, 21, 22] st st130 := hG.tr hG2 (by decide)
      have hGst130 : MG [1, 2, 3, 4, 5, 6, 7, 8, 9, 10, 11, 12, 13, 14, 15, 16, 17, 19, 20, 21, 22] st st130 := hG2
      clear hG2
      obtain rfl := hw
      exact W.zret (v := 0) hx hb hr rfl (fun t ht hW => ⟨⟨0, (st130, sl131), rfl, ⟨hG, hL, Or.inr (rfl)⟩, mB.of ht hP⟩, hS.F ht⟩) hS.2.2 dX12_readBookLine_25
