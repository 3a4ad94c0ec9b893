set_option maxHeartbeats 4000000 in
set_option maxRecDepth 100000 in
theorem m_readOf_7 (l : Launch) (dC : Nat → ClassId) (dI : Nat → Nat → Nat) (ar : Nat → Nat) (cy : Nat → ClassId) (sz : Nat) (hN : MN ar) (st : Nat → Nat → Int32) (sl : Nat → Nat → Int64) (va : Nat) (gn : Nat) (go : Nat) (ga gb : Nat) (hlva : 18 ≤ va) (hva : va < 20) (hI : MI st) (hT : TS st ga gb) (h43 : st 0 43 = nI gn) (h44 : st 0 44 = nI go) (h45 : st 0 45 = 7) (hgn : gn ≤ 2 * go) (hgo : go ≤ 20) (hNK : NKm st) : Met l yX12_readOf wsX12_readOf ({ frames := 4, cells := 0, slots := 0, locals := 91 }) (va_Pc [.ref (ar 0), .int (nI va)] (mPre dC dI ar cy sz st sl)) (va_Qi (fun (r : Int32) (x : MT) => MG [1, 2, 3, 6, 7, 13, 14, 15, 19, 20, 21, 22] st x.1 ∧ LQ [7, 9] sl x.2 ∧ ((∃ g : Nat, ∃ n1 : Nat, ∃ o1 : Nat, ∃ t1 : Nat, r = 1 ∧ TS x.1 g gb ∧ ga ≤ g ∧ x.1 0 43 = nI n1 ∧ x.1 0 44 = nI o1 ∧ x.1 0 45 = 7 ∧ x.1 0 46 = nI t1 ∧ t1 < n1 ∧ n1 = gn + 1 ∧ o1 = go ∧ o1 ≤ 20 ∧ gn ≤ n1 ∧ NKm x.1) ∨ (r = 0 ∧ x.1 0 45 = 7 ∧ NKm x.1))) (mB dC dI ar cy) (MA ar sz)) 0 0 (MA ar sz) := by
  refine Met.ofW (cc := cX12_readOf) (maxL := 2) (ret := (some .boolean)) (by decide) rfl ?_
  intro p e s m args below meth c s₁ B hml hv
  obtain ⟨rfl, hsz, hP, hK⟩ := hv
  have hx := B.exec
  have hb := B.bytes
  have hr := B.returns
  have hts := atoms_spec (ws := wsX12_readOf) B.pre
  have hown : s.vm.findClass RX12 = some m.cls := findClass_of_methodNamed B.named
  subst hsz
  have hS : va_S (MA ar s.heap.size) s.heap s.heap [] := va_S.rf
  have hG : MG [1, 2, 3, 6, 7, 13, 14, 15, 19, 20, 21, 22] st st := MG.rf hI
  have hl := lv_entry ([.ref (ar 0), .int (nI va)]) (n := 2) (Nat.le_of_ble_eq_true rfl)
  rw [lg_entry_eq]
  generalize (lg_sl ([.ref (ar 0), .int (nI va)]) ++ List.replicate (2 - (lg_sl ([.ref (ar 0), .int (nI va)])).length) Slot.unset).toArray = ls at hl ⊢
  have hl : lv_has ls 2 [(0, .ref (ar 0)), (1, .int (nI va))] := hl
  clear hI
  have hL : LQ [7, 9] sl sl := LQ.rf
  have hTc := hT.2.2.1
  have hTd := hT.2.2.2
  have hga : ga ≤ ga := Nat.le_refl ga
  refine lv_aload_n hx hb dX12_readOf_0 rfl (lv_at hl 0 rfl) ?_
  refine lv_iload_n hx hb dX12_readOf_1 rfl (lv_at hl 1 rfl) ?_
  refine lv_bipush (v := 18) hx hb dX12_readOf_2 (by decide) ?_
  refine lv_icmp_ne (tgt := 11) hx hb dX12_readOf_4 (by decide) (fun c1 => ?_) (fun c1 => ?_)
  · have c1 : ¬ va = 18 := fun hh => c1 ((nI_eq (a := va) (b := 18) (by omega) (by omega)).mpr hh)
    refine lv_iconst (v := 0) hx hb dX12_readOf_11 (by decide) ?_
    refine lv_aload_n hx hb dX12_readOf_12 rfl (lv_at hl 0 rfl) ?_
    refine va_get (D := (dC, dI)) (ci := 11) (v := .ref (ar 2)) (C := RX12) (T := TX12) (N := 47) hx hb hts ii_X12_readOf hown hK hP 0 rfl rfl 14 (by decide) (hts _ mm_X12_readOf_1) (fun _ hh => hh) rfl dX12_readOf_13 ?_
    refine lv_iload_n hx hb dX12_readOf_16 rfl (lv_at hl 1 rfl) ?_
    refine lv_bipush (v := 18) hx hb dX12_readOf_17 (by decide) ?_
    refine lv_icmp_ne (tgt := 26) hx hb dX12_readOf_19 (by decide) (fun _ => ?_) (fun cc => absurd ((nI_eq (a := va) (b := 18) (by omega) (by omega)).mp cc) (by omega))
    refine lv_iconst (v := 0) hx hb dX12_readOf_26 (by decide) ?_
    refine va_iald hx hb hK hP 2 1 rfl rfl (i := 0) (zz_in (by decide)) dX12_readOf_27 ?_
    obtain ⟨n1, hn1, en1⟩ := hG.1.at (r := 2) (k := 0) (by decide : mr 2 0 = 6) (by decide)
    refine zz_top (v := nI n1) (by exact en1) ?_
    refine va_calli (va_runV (As := [.int 0, .int (nI n1)]) (rest := []) ⟨hx, hb, hml, hown, hts⟩ (m_readNamed0 l dC dI ar cy _ hN st sl n1 ga gb (by omega) hG.1 ((⟨by rw [hT.1], by rw [hT.2.1], by omega, by omega⟩ : TS st ga gb))) (cwV 2 hts gX12_readOf_X12_readNamed rfl rfl rfl (by decide +kernel) ⟨Nat.le_of_ble_eq_true rfl, Nat.le_of_ble_eq_true rfl⟩) ⟨fun a U g mk q => ⟨q.1, mPre.blind q.2⟩, va_recv hK hP (ci := 11) (q0 := 0) rfl rfl, fun U hU hW => ⟨rfl, mPre.of hP hK hU hW⟩⟩ rfl rfl hl.1 rfl (lv_room (Nat.le_of_ble_eq_true rfl)) dX12_readOf_28 ⟨Nat.le_of_ble_eq_true rfl, Nat.le_of_ble_eq_true rfl⟩) hS (fun q _ h => MA.le hS.1 q h) (MA.le hS.1) (fun r2 x t H locs ht hvm hw hB _ _ hS => ?_)
    have hP := mB.at ht hB
    clear hB ht hvm
    obtain ⟨st3, sl4⟩ := x
    obtain ⟨hG2, hL2, hw⟩ := hw
    have hL : LQ [7, 9] sl sl4 := hL.tr hL2 (by decide)
    clear hL2
    dsimp only at hw
    have hP : va_P (dC, dI) vwCl (mw ar cy st3 sl4) _ := hP
    have hG : MG [1, 2, 3, 6, 7, 13, 14, 15, 19, 20, 21, 22] st st3 := hG.tr hG2 (by decide)
    have hGst3 : MG [1, 2, 3, 6, 7, 8, 9, 10, 11, 12, 13, 14, 15, 19, 20, 21, 22] st st3 := hG2
    clear hG2
    rcases hw with ⟨n5, n6, rfl, hf7, hf8, hf9, hf10, hf11⟩ | rfl
    · have hf7c := hf7.2.2.1
      have hf7d := hf7.2.2.2
      refine lv_if_ne (tgt := 36) hx hb dX12_readOf_31 (by decide) (fun _ => ?_) (fun cc => absurd cc (by decide))
      refine lv_aload_n hx hb dX12_readOf_36 rfl (lv_at hl 0 rfl) ?_
      refine lv_aload_n hx hb dX12_readOf_37 rfl (lv_at hl 0 rfl) ?_
      refine lv_bipush (v := 50) hx hb dX12_readOf_38 (by decide) ?_
      refine lv_iload_n hx hb dX12_readOf_40 rfl (lv_at hl 1 rfl) ?_
      refine lv_iadd hx hb dX12_readOf_41 ?_
      refine zz_top (v := nI (50 + va)) (nI_add 50 va) ?_
      refine lv_aload_n hx hb dX12_readOf_42 rfl (lv_at hl 0 rfl) ?_
      refine va_get (D := (dC, dI)) (ci := 11) (v := .int (st3 0 13)) (C := RX12) (T := TX12) (N := 47) hx hb hts ii_X12_readOf hown hK hP 0 rfl rfl 13 (by decide) (hts _ mm_X12_readOf_2) (fun _ hh => hh) rfl dX12_readOf_43 ?_
      refine zz_top (v := (nI n6)) (by show st3 0 13 = _; rw [hf10]) ?_
      refine lv_iconst (v := 0) hx hb dX12_readOf_46 (by decide) ?_
      refine lv_iconst (v := 0) hx hb dX12_readOf_47 (by decide) ?_
      refine va_calli (va_runV (As := [.int (nI (50 + va)), .int (nI n6), .int 0, .int 0]) (rest := [.ref (ar 0)]) ⟨hx, hb, hml, hown, hts⟩ (m_saysOne50 l dC dI ar cy _ hN st3 sl4 (50 + va) n6 0 0 gn (by omega) (by omega) (by omega) hG.1 (by rw [hGst3.2 0 43 (by decide), h43]) (by omega) ((NKm.mg hGst3 (by decide) hNK))) (cwV 4 hts gX12_readOf_X12_saysOne rfl rfl rfl (by decide +kernel) ⟨Nat.le_of_ble_eq_true rfl, Nat.le_of_ble_eq_true rfl⟩) ⟨fun a U g mk q => ⟨q.1, mPre.blind q.2⟩, va_recv hK hP (ci := 11) (q0 := 0) rfl rfl, fun U hU hW => ⟨rfl, mPre.of hP hK hU hW⟩⟩ rfl rfl hl.1 rfl (lv_room (Nat.le_of_ble_eq_true rfl)) dX12_readOf_48 ⟨Nat.le_of_ble_eq_true rfl, Nat.le_of_ble_eq_true rfl⟩) hS (fun q _ h => MA.le hS.1 q h) (MA.le hS.1) (fun r12 x t H locs ht hvm hw hB _ _ hS => ?_)
      have hP := mB.at ht hB
      clear hB ht hvm
      obtain ⟨st13, sl14⟩ := x
      obtain ⟨hG2, hL2, hw⟩ := hw
      have hL : LQ [7, 9] sl sl14 := hL.tr hL2 (by decide)
      clear hL2
      dsimp only at hw
      have hP : va_P (dC, dI) vwCl (mw ar cy st13 sl14) _ := hP
      have hG : MG [1, 2, 3, 6, 7, 13, 14, 15, 19, 20, 21, 22] st st13 := hG.tr hG2 (by decide)
      have hGst13 : MG [1, 2, 3, 4, 5, 6, 7, 10, 11, 12, 13, 14, 15, 16, 17, 19, 20, 21, 22, 23] st3 st13 := hG2
      clear hG2
      obtain ⟨n15, rfl, hf16, hf17, hf18⟩ := hw
      refine va_put (D := (dC, dI)) (ci := 11) (v := .int (nI n15)) (ty := .int) (C := RX12) (T := TX12) (N := 47) hx hb hts ii_X12_readOf tyX12 tyX12_ok nmX12 hown hK hP (mD hN _ _ _ _) hS 0 rfl rfl 46 (by decide) (hts _ mm_X12_readOf_3) (fun _ hh => hh) rfl (by decide +kernel) rfl rfl (Nat.le_of_ble_eq_true rfl) dX12_readOf_51 (fun H locs hP _ hS => ?_)
      have hP : va_P (dC, dI) vwCl (mw ar cy (up2 st13 0 46 (nI n15)) sl14) H := hP
      obtain ⟨st19, est19⟩ : ∃ y, y = up2 st13 0 46 (nI n15) := ⟨_, rfl⟩
      have hG : MG [1, 2, 3, 6, 7, 13, 14, 15, 19, 20, 21, 22] st st19 := by rw [est19]; exact hG.up (rn (n := n15) (by decide : mr 0 46 = 60) (by omega)) (pn (by decide : pcl 0 46 = 12) (by decide))
      rw [← est19] at hP
      refine lv_iconst (v := 1) hx hb dX12_readOf_54 (by decide) ?_
      exact W.zret (v := 1) hx hb hr rfl (fun t ht hW => ⟨⟨1, (st19, sl14), rfl, ⟨hG, hL, Or.inl (⟨n5, (gn + 1), go, n15, rfl, (show TS st19 n5 gb from ⟨by rw [est19, up2_ne (r := 0) (k := 46) (a := 0) (j := 5) _ _ (by omega), hGst13.2 0 5 (by decide), hf7.1], by rw [est19, up2_ne (r := 0) (k := 46) (a := 0) (j := 3) _ _ (by omega), hGst13.2 0 3 (by decide), hf7.2.1], by omega, by omega⟩), by omega, by show st19 0 43 = (nI (gn + 1)); rw [est19, up2_ne (r := 0) (k := 46) (a := 0) (j := 43) _ _ (by omega), hf17], by show st19 0 44 = (nI go); rw [est19, up2_ne (r := 0) (k := 46) (a := 0) (j := 44) _ _ (by omega), hGst13.2 0 44 (by decide), hGst3.2 0 44 (by decide), h44], by show st19 0 45 = 7; rw [est19, up2_ne (r := 0) (k := 46) (a := 0) (j := 45) _ _ (by omega), hGst13.2 0 45 (by decide), hGst3.2 0 45 (by decide), h45], by show st19 0 46 = (nI n15); rw [est19, up2_same], by omega, by omega, by omega, by omega, by omega, (show NKm st19 by rw [est19]; exact (show NKm st13 from hf18))⟩)⟩, mB.of ht hP⟩, hS.F ht⟩) hS.2.2 dX12_readOf_55
    · refine lv_if_ne (tgt := 36) hx hb dX12_readOf_31 (by decide) (fun cc => absurd (by decide) cc) (fun _ => ?_)
      refine lv_iconst (v := 0) hx hb dX12_readOf_34 (by decide) ?_
      exact W.zret (v := 0) hx hb hr rfl (fun t ht hW => ⟨⟨0, (st3, sl4), rfl, ⟨hG, hL, Or.inr (⟨rfl, by show st3 0 45 = _; rw [hGst3.2 0 45 (by decide), h45], (NKm.mg hGst3 (by decide) hNK)⟩)⟩, mB.of ht hP⟩, hS.F ht⟩) hS.2.2 dX12_readOf_35
  · have c1 : va = 18 := (nI_eq (a := va) (b := 18) (by omega) (by omega)).mp c1
    refine lv_iconst (v := 5) hx hb dX12_readOf_7 (by decide) ?_
    refine lv_goto (tgt := 12) hx hb dX12_readOf_8 (by decide) ?_
    refine lv_aload_n hx hb dX12_readOf_12 rfl (lv_at hl 0 rfl) ?_
    refine va_get (D := (dC, dI)) (ci := 11) (v := .ref (ar 2)) (C := RX12) (T := TX12) (N := 47) hx hb hts ii_X12_readOf hown hK hP 0 rfl rfl 14 (by decide) (hts _ mm_X12_readOf_1) (fun _ hh => hh) rfl dX12_readOf_13 ?_
    refine lv_iload_n hx hb dX12_readOf_16 rfl (lv_at hl 1 rfl) ?_
    refine lv_bipush (v := 18) hx hb dX12_readOf_17 (by decide) ?_
    refine lv_icmp_ne (tgt := 26) hx hb dX12_readOf_19 (by decide) (fun c5 => ?_) (fun c5 => ?_)
    · have c5 : ¬ va = 18 := fun hh => c5 ((nI_eq (a := va) (b := 18) (by omega) (by omega)).mpr hh)
      refine lv_iconst (v := 0) hx hb dX12_readOf_26 (by decide) ?_
      refine va_iald hx hb hK hP 2 1 rfl rfl (i := 0) (zz_in (by decide)) dX12_readOf_27 ?_
      obtain ⟨n20, hn20, en20⟩ := hG.1.at (r := 2) (k := 0) (by decide : mr 2 0 = 6) (by decide)
      refine zz_top (v := nI n20) (by exact en20) ?_
      refine va_calli (va_runV (As := [.int 5, .int (nI n20)]) (rest := []) ⟨hx, hb, hml, hown, hts⟩ (m_readNamed5 l dC dI ar cy _ hN st sl n20 ga gb (by omega) hG.1 ((⟨by rw [hT.1], by rw [hT.2.1], by omega, by omega⟩ : TS st ga gb))) (cwV 2 hts gX12_readOf_X12_readNamed rfl rfl rfl (by decide +kernel) ⟨Nat.le_of_ble_eq_true rfl, Nat.le_of_ble_eq_true rfl⟩) ⟨fun a U g mk q => ⟨q.1, mPre.blind q.2⟩, va_recv hK hP (ci := 11) (q0 := 0) rfl rfl, fun U hU hW => ⟨rfl, mPre.of hP hK hU hW⟩⟩ rfl rfl hl.1 rfl (lv_room (Nat.le_of_ble_eq_true rfl)) dX12_readOf_28 ⟨Nat.le_of_ble_eq_true rfl, Nat.le_of_ble_eq_true rfl⟩) hS (fun q _ h => MA.le hS.1 q h) (MA.le hS.1) (fun r21 x t H locs ht hvm hw hB _ _ hS => ?_)
      have hP := mB.at ht hB
      clear hB ht hvm
      obtain ⟨st22, sl23⟩ := x
      obtain ⟨hG2, hL2, hw⟩ := hw
      have hL : LQ [7, 9] sl sl23 := hL.tr hL2 (by decide)
      clear hL2
      dsimp only at hw
      have hP : va_P (dC, dI) vwCl (mw ar cy st22 sl23) _ := hP
      have hG : MG [1, 2, 3, 6, 7, 13, 14, 15, 19, 20, 21, 22] st st22 := hG.tr hG2 (by decide)
      have hGst22 : MG [1, 2, 3, 6, 7, 8, 9, 10, 11, 12, 13, 14, 15, 19, 20, 21, 22] st st22 := hG2
      clear hG2
      rcases hw with ⟨n24, n25, rfl, hf26, hf27, hf28, hf29, hf30⟩ | rfl
      · have hf26c := hf26.2.2.1
        have hf26d := hf26.2.2.2
        refine lv_if_ne (tgt := 36) hx hb dX12_readOf_31 (by decide) (fun _ => ?_) (fun cc => absurd cc (by decide))
        refine lv_aload_n hx hb dX12_readOf_36 rfl (lv_at hl 0 rfl) ?_
        refine lv_aload_n hx hb dX12_readOf_37 rfl (lv_at hl 0 rfl) ?_
        refine lv_bipush (v := 50) hx hb dX12_readOf_38 (by decide) ?_
        refine lv_iload_n hx hb dX12_readOf_40 rfl (lv_at hl 1 rfl) ?_
        refine lv_iadd hx hb dX12_readOf_41 ?_
        refine zz_top (v := nI (50 + va)) (nI_add 50 va) ?_
        refine lv_aload_n hx hb dX12_readOf_42 rfl (lv_at hl 0 rfl) ?_
        refine va_get (D := (dC, dI)) (ci := 11) (v := .int (st22 0 13)) (C := RX12) (T := TX12) (N := 47) hx hb hts ii_X12_readOf hown hK hP 0 rfl rfl 13 (by decide) (hts _ mm_X12_readOf_2) (fun _ hh => hh) rfl dX12_readOf_43 ?_
        refine zz_top (v := (nI n25)) (by show st22 0 13 = _; rw [hf29]) ?_
        refine lv_iconst (v := 0) hx hb dX12_readOf_46 (by decide) ?_
        refine lv_iconst (v := 0) hx hb dX12_readOf_47 (by decide) ?_
        refine va_calli (va_runV (As := [.int (nI (50 + va)), .int (nI n25), .int 0, .int 0]) (rest := [.ref (ar 0)]) ⟨hx, hb, hml, hown, hts⟩ (m_saysOne50 l dC dI ar cy _ hN st22 sl23 (50 + va) n25 0 0 gn (by omega) (by omega) (by omega) hG.1 (by rw [hGst22.2 0 43 (by decide), h43]) (by omega) ((NKm.mg hGst22 (by decide) hNK))) (cwV 4 hts gX12_readOf_X12_saysOne rfl rfl rfl (by decide +kernel) ⟨Nat.le_of_ble_eq_true rfl, Nat.le_of_ble_eq_true rfl⟩) ⟨fun a U g mk q => ⟨q.1, mPre.blind q.2⟩, va_recv hK hP (ci := 11) (q0 := 0) rfl rfl, fun U hU hW => ⟨rfl, mPre.of hP hK hU hW⟩⟩ rfl rfl hl.1 rfl (lv_room (Nat.le_of_ble_eq_true rfl)) dX12_readOf_48 ⟨Nat.le_of_ble_eq_true rfl, Nat.le_of_ble_eq_true rfl⟩) hS (fun q _ h => MA.le hS.1 q h) (MA.le hS.1) (fun r31 x t H locs ht hvm hw hB _ _ hS => ?_)
        have hP := mB.at ht hB
        clear hB ht hvm
        obtain ⟨st32, sl33⟩ := x
        obtain ⟨hG2, hL2, hw⟩ := hw
        have hL : LQ [7, 9] sl sl33 := hL.tr hL2 (by decide)
        clear hL2
        dsimp only at hw
        have hP : va_P (dC, dI) vwCl (mw ar cy st32 sl33) _ := hP
        have hG : MG [1, 2, 3, 6, 7, 13, 14, 15, 19, 20, 21, 22] st st32 := hG.tr hG2 (by decide)
        have hGst32 : MG [1, 2, 3, 4, 5, 6, 7, 10, 11, 12, 13, 14, 15, 16, 17, 19, 20, 21, 22, 23] st22 st32 := hG2
        clear hG2
        obtain ⟨n34, rfl, hf35, hf36, hf37⟩ := hw
        refine va_put (D := (dC, dI)) (ci := 11) (v := .int (nI n34)) (ty := .int) (C := RX12) (T := TX12) (N := 47) hx hb hts ii_X12_readOf tyX12 tyX12_ok nmX12 hown hK hP (mD hN _ _ _ _) hS 0 rfl rfl 46 (by decide) (hts _ mm_X12_readOf_3) (fun _ hh => hh) rfl (by decide +kernel) rfl rfl (Nat.le_of_ble_eq_true rfl) dX12_readOf_51 (fun H locs hP _ hS => ?_)
        have hP : va_P (dC, dI) vwCl (mw ar cy (up2 st32 0 46 (nI n34)) sl33) H := hP
        obtain ⟨st38, est38⟩ : ∃ y, y = up2 st32 0 46 (nI n34) := ⟨_, rfl⟩
        have hG : MG [1, 2, 3, 6, 7, 13, 14, 15, 19, 20, 21, 22] st st38 := by rw [est38]; exact hG.up (rn (n := n34) (by decide : mr 0 46 = 60) (by omega)) (pn (by decide : pcl 0 46 = 12) (by decide))
        rw [← est38] at hP
        refine lv_iconst (v := 1) hx hb dX12_readOf_54 (by decide) ?_
        exact W.zret (v := 1) hx hb hr rfl (fun t ht hW => ⟨⟨1, (st38, sl33), rfl, ⟨hG, hL, Or.inl (⟨n24, (gn + 1), go, n34, rfl, (show TS st38 n24 gb from ⟨by rw [est38, up2_ne (r := 0) (k := 46) (a := 0) (j := 5) _ _ (by omega), hGst32.2 0 5 (by decide), hf26.1], by rw [est38, up2_ne (r := 0) (k := 46) (a := 0) (j := 3) _ _ (by omega), hGst32.2 0 3 (by decide), hf26.2.1], by omega, by omega⟩), by omega, by show st38 0 43 = (nI (gn + 1)); rw [est38, up2_ne (r := 0) (k := 46) (a := 0) (j := 43) _ _ (by omega), hf36], by show st38 0 44 = (nI go); rw [est38, up2_ne (r := 0) (k := 46) (a := 0) (j := 44) _ _ (by omega), hGst32.2 0 44 (by decide), hGst22.2 0 44 (by decide), h44], by show st38 0 45 = 7; rw [est38, up2_ne (r := 0) (k := 46) (a := 0) (j := 45) _ _ (by omega), hGst32.2 0 45 (by decide), hGst22.2 0 45 (by decide), h45], by show st38 0 46 = (nI n34); rw [est38, up2_same], by omega, by omega, by omega, by omega, by omega, (show NKm st38 by rw [est38]; exact (show NKm st32 from hf37))⟩)⟩, mB.of ht hP⟩, hS.F ht⟩) hS.2.2 dX12_readOf_55
      · refine lv_if_ne (tgt := 36) hx hb dX12_readOf_31 (by decide) (fun cc => absurd (by decide) cc) (fun _ => ?_)
        refine lv_iconst (v := 0) hx hb dX12_readOf_34 (by decide) ?_
        exact W.zret (v := 0) hx hb hr rfl (fun t ht hW => ⟨⟨0, (st22, sl23), rfl, ⟨hG, hL, Or.inr (⟨rfl, by show st22 0 45 = _; rw [hGst22.2 0 45 (by decide), h45], (NKm.mg hGst22 (by decide) hNK)⟩)⟩, mB.of ht hP⟩, hS.F ht⟩) hS.2.2 dX12_readOf_35
    · have c5 : va = 18 := (nI_eq (a := va) (b := 18) (by omega) (by omega)).mp c5
      refine lv_iconst (v := 1) hx hb dX12_readOf_22 (by decide) ?_
      refine lv_goto (tgt := 27) hx hb dX12_readOf_23 (by decide) ?_
      refine va_iald hx hb hK hP 2 1 rfl rfl (i := 1) (zz_in (by decide)) dX12_readOf_27 ?_
      obtain ⟨n39, hn39, en39⟩ := hG.1.at (r := 2) (k := 1) (by decide : mr 2 1 = 9) (by decide)
      refine zz_top (v := nI n39) (by exact en39) ?_
      refine va_calli (va_runV (As := [.int 5, .int (nI n39)]) (rest := []) ⟨hx, hb, hml, hown, hts⟩ (m_readNamed5 l dC dI ar cy _ hN st sl n39 ga gb (by omega) hG.1 ((⟨by rw [hT.1], by rw [hT.2.1], by omega, by omega⟩ : TS st ga gb))) (cwV 2 hts gX12_readOf_X12_readNamed rfl rfl rfl (by decide +kernel) ⟨Nat.le_of_ble_eq_true rfl, Nat.le_of_ble_eq_true rfl⟩) ⟨fun a U g mk q => ⟨q.1, mPre.blind q.2⟩, va_recv hK hP (ci := 11) (q0 := 0) rfl rfl, fun U hU hW => ⟨rfl, mPre.of hP hK hU hW⟩⟩ rfl rfl hl.1 rfl (lv_room (Nat.le_of_ble_eq_true rfl)) dX12_readOf_28 ⟨Nat.le_of_ble_eq_true rfl, Nat.le_of_ble_eq_true rfl⟩) hS (fun q _ h => MA.le hS.1 q h) (MA.le hS.1) (fun r40 x t H locs ht hvm hw hB _ _ hS => ?_)
      have hP := mB.at ht hB
      clear hB ht hvm
      obtain ⟨st41, sl42⟩ := x
      obtain ⟨hG2, hL2, hw⟩ := hw
      have hL : LQ [7, 9] sl sl42 := hL.tr hL2 (by decide)
      clear hL2
      dsimp only at hw
      have hP : va_P (dC, dI) vwCl (mw ar cy st41 sl42) _ := hP
      have hG : MG [1, 2, 3, 6, 7, 13, 14, 15, 19, 20, 21, 22] st st41 := hG.tr hG2 (by decide)
      have hGst41 : MG [1, 2, 3, 6, 7, 8, 9, 10, 11, 12, 13, 14, 15, 19, 20, 21, 22] st st41 := hG2
      clear hG2
      rcases hw with ⟨n43, n44, rfl, hf45, hf46, hf47, hf48, hf49⟩ | rfl
      · have hf45c := hf45.2.2.1
        have hf45d := hf45.2.2.2
        refine lv_if_ne (tgt := 36) hx hb dX12_readOf_31 (by decide) (fun _ => ?_) (fun cc => absurd cc (by decide))
        refine lv_aload_n hx hb dX12_readOf_36 rfl (lv_at hl 0 rfl) ?_
        refine lv_aload_n hx hb dX12_readOf_37 rfl (lv_at hl 0 rfl) ?_
        refine lv_bipush (v := 50) hx hb dX12_readOf_38 (by decide) ?_
        refine lv_iload_n hx hb dX12_readOf_40 rfl (lv_at hl 1 rfl) ?_
        refine lv_iadd hx hb dX12_readOf_41 ?_
        refine zz_top (v := nI (50 + va)) (nI_add 50 va) ?_
        refine lv_aload_n hx hb dX12_readOf_42 rfl (lv_at hl 0 rfl) ?_
        refine va_get (D := (dC, dI)) (ci := 11) (v := .int (st41 0 13)) (C := RX12) (T := TX12) (N := 47) hx hb hts ii_X12_readOf hown hK hP 0 rfl rfl 13 (by decide) (hts _ mm_X12_readOf_2) (fun _ hh => hh) rfl dX12_readOf_43 ?_
        refine zz_top (v := (nI n44)) (by show st41 0 13 = _; rw [hf48]) ?_
        refine lv_iconst (v := 0) hx hb dX12_readOf_46 (by decide) ?_
        refine lv_iconst (v := 0) hx hb dX12_readOf_47 (by decide) ?_
        refine va_calli (va_runV (As := [.int (nI (50 + va)), .int (nI n44), .int 0, .int 0]) (rest := [.ref (ar 0)]) ⟨hx, hb, hml, hown, hts⟩ (m_saysOne50 l dC dI ar cy _ hN st41 sl42 (50 + va) n44 0 0 gn (by omega) (by omega) (by omega) hG.1 (by rw [hGst41.2 0 43 (by decide), h43]) (by omega) ((NKm.mg hGst41 (by decide) hNK))) (cwV 4 hts gX12_readOf_X12_saysOne rfl rfl rfl (by decide +kernel) ⟨Nat.le_of_ble_eq_true rfl, Nat.le_of_ble_eq_true rfl⟩) ⟨fun a U g mk q => ⟨q.1, mPre.blind q.2⟩, va_recv hK hP (ci := 11) (q0 := 0) rfl rfl, fun U hU hW => ⟨rfl, mPre.of hP hK hU hW⟩⟩ rfl rfl hl.1 rfl (lv_room (Nat.le_of_ble_eq_true rfl)) dX12_readOf_48 ⟨Nat.le_of_ble_eq_true rfl, Nat.le_of_ble_eq_true rfl⟩) hS (fun q _ h => MA.le hS.1 q h) (MA.le hS.1) (fun r50 x t H locs ht hvm hw hB _ _ hS => ?_)
        have hP := mB.at ht hB
        clear hB ht hvm
        obtain ⟨st51, sl52⟩ := x
        obtain ⟨hG2, hL2, hw⟩ := hw
        have hL : LQ [7, 9] sl sl52 := hL.tr hL2 (by decide)
        clear hL2
        dsimp only at hw
        have hP : va_P (dC, dI) vwCl (mw ar cy st51 sl52) _ := hP
        have hG : MG [1, 2, 3, 6, 7, 13, 14, 15, 19, 20, 21, 22] st st51 := hG.tr hG2 (by decide)
        have hGst51 : MG [1, 2, 3, 4, 5, 6, 7, 10, 11, 12, 13, 14, 15, 16, 17, 19, 20, 21, 22, 23] st41 st51 := hG2
        clear hG2
        obtain ⟨n53, rfl, hf54, hf55, hf56⟩ := hw
        refine va_put (D := (dC, dI)) (ci := 11) (v := .int (nI n53)) (ty := .int) (C := RX12) (T := TX12) (N := 47) hx hb hts ii_X12_readOf tyX12 tyX12_ok nmX12 hown hK hP (mD hN _ _ _ _) hS 0 rfl rfl 46 (by decide) (hts _ mm_X12_readOf_3) (fun _ hh => hh) rfl (by decide +kernel) rfl rfl (Nat.le_of_ble_eq_true rfl) dX12_readOf_51 (fun H locs hP _ hS => ?_)
        have hP : va_P (dC, dI) vwCl (mw ar cy (up2 st51 0 46 (nI n53)) sl52) H := hP
        obtain ⟨st57, est57⟩ : ∃ y, y = up2 st51 0 46 (nI n53) := ⟨_, rfl⟩
        have hG : MG [1, 2, 3, 6, 7, 13, 14, 15, 19, 20, 21, 22] st st57 := by rw [est57]; exact hG.up (rn (n := n53) (by decide : mr 0 46 = 60) (by omega)) (pn (by decide : pcl 0 46 = 12) (by decide))
        rw [← est57] at hP
        refine lv_iconst (v := 1) hx hb dX12_readOf_54 (by decide) ?_
        exact W.zret (v := 1) hx hb hr rfl (fun t ht hW => ⟨⟨1, (st57, sl52), rfl, ⟨hG, hL, Or.inl (⟨n43, (gn + 1), go, n53, rfl, (show TS st57 n43 gb from ⟨by rw [est57, up2_ne (r := 0) (k := 46) (a := 0) (j := 5) _ _ (by omega), hGst51.2 0 5 (by decide), hf45.1], by rw [est57, up2_ne (r := 0) (k := 46) (a := 0) (j := 3) _ _ (by omega), hGst51.2 0 3 (by decide), hf45.2.1], by omega, by omega⟩), by omega, by show st57 0 43 = (nI (gn + 1)); rw [est57, up2_ne (r := 0) (k := 46) (a := 0) (j := 43) _ _ (by omega), hf55], by show st57 0 44 = (nI go); rw [est57, up2_ne (r := 0) (k := 46) (a := 0) (j := 44) _ _ (by omega), hGst51.2 0 44 (by decide), hGst41.2 0 44 (by decide), h44], by show st57 0 45 = 7; rw [est57, up2_ne (r := 0) (k := 46) (a := 0) (j := 45) _ _ (by omega), hGst51.2 0 45 (by decide), hGst41.2 0 45 (by decide), h45], by show st57 0 46 = (nI n53); rw [est57, up2_same], by omega, by omega, by omega, by omega, by omega, (show NKm st57 by rw [est57]; exact (show NKm st51 from hf56))⟩)⟩, mB.of ht hP⟩, hS.F ht⟩) hS.2.2 dX12_readOf_55
      · refine lv_if_ne (tgt := 36) hx hb dX12_readOf_31 (by decide) (fun cc => absurd (by decide) cc) (fun _ => ?_)
        refine lv_iconst (v := 0) hx hb dX12_readOf_34 (by decide) ?_
        exact W.zret (v := 0) hx hb hr rfl (fun t ht hW => ⟨⟨0, (st41, sl42), rfl, ⟨hG, hL, Or.inr (⟨rfl, by show st41 0 45 = _; rw [hGst41.2 0 45 (by decide), h45], (NKm.mg hGst41 (by decide) hNK)⟩)⟩, mB.of ht hP⟩, hS.F ht⟩) hS.2.2 dX12_readOf_35
set_option maxHeartbeats 4000000 in
set_option maxRecDepth 100000 in
theorem m_readCompare_7 (l : Launch) (dC : Nat → ClassId) (dI : Nat → Nat → Nat) (ar : Nat → Nat) (cy : Nat → ClassId) (sz : Nat) (hN : MN ar) (st : Nat → Nat → Int32) (sl : Nat → Nat → Int64) (va : Nat) (gn : Nat) (go : Nat) (ga gb : Nat) (hlva : 20 ≤ va) (hva : va < 24) (hI : MI st) (hT : TS st ga gb) (h43 : st 0 43 = nI gn) (h44 : st 0 44 = nI go) (h45 : st 0 45 = 7) (hgn : gn ≤ 2 * go) (hgo : go ≤ 20) (hNK : NKm st) : Met l yX12_readCompare wsX12_readCompare ({ frames := 3, cells := 0, slots := 0, locals := 67 }) (va_Pc [.ref (ar 0), .int (nI va)] (mPre dC dI ar cy sz st sl)) (va_Qi (fun (r : Int32) (x : MT) => MG [1, 2, 3, 6, 7, 13, 14, 15, 19, 20, 21, 22] st x.1 ∧ LQ [7, 9] sl x.2 ∧ ((∃ g : Nat, ∃ n1 : Nat, ∃ o1 : Nat, ∃ t1 : Nat, r = 1 ∧ TS x.1 g gb ∧ ga ≤ g ∧ x.1 0 43 = nI n1 ∧ x.1 0 44 = nI o1 ∧ x.1 0 45 = 7 ∧ x.1 0 46 = nI t1 ∧ t1 < n1 ∧ n1 = gn + 1 ∧ o1 = go ∧ o1 ≤ 20 ∧ gn ≤ n1 ∧ NKm x.1) ∨ (r = 0 ∧ x.1 0 45 = 7 ∧ NKm x.1))) (mB dC dI ar cy) (MA ar sz)) 0 0 (MA ar sz) := by
  refine Met.ofW (cc := cX12_readCompare) (maxL := 3) (ret := (some .boolean)) (by decide) rfl ?_
  intro p e s m args below meth c s₁ B hml hv
  obtain ⟨rfl, hsz, hP, hK⟩ := hv
  have hx := B.exec
  have hb := B.bytes
  have hr := B.returns
  have hts := atoms_spec (ws := wsX12_readCompare) B.pre
  have hown : s.vm.findClass RX12 = some m.cls := findClass_of_methodNamed B.named
  subst hsz
  have hS : va_S (MA ar s.heap.size) s.heap s.heap [] := va_S.rf
  have hG : MG [1, 2, 3, 6, 7, 13, 14, 15, 19, 20, 21, 22] st st := MG.rf hI
  have hl := lv_entry ([.ref (ar 0), .int (nI va)]) (n := 3) (Nat.le_of_ble_eq_true rfl)
  rw [lg_entry_eq]
  generalize (lg_sl ([.ref (ar 0), .int (nI va)]) ++ List.replicate (3 - (lg_sl ([.ref (ar 0), .int (nI va)])).length) Slot.unset).toArray = ls at hl ⊢
  have hl : lv_has ls 3 [(0, .ref (ar 0)), (1, .int (nI va))] := hl
  clear hI
  have hL : LQ [7, 9] sl sl := LQ.rf
  have hTc := hT.2.2.1
  have hTd := hT.2.2.2
  have hga : ga ≤ ga := Nat.le_refl ga
  refine lv_aload_n hx hb dX12_readCompare_0 rfl (lv_at hl 0 rfl) ?_
  refine lv_bipush (v := 60) hx hb dX12_readCompare_1 (by decide) ?_
  refine va_calli (va_runV (As := [.int 60]) (rest := []) ⟨hx, hb, hml, hown, hts⟩ (m_isSign l dC dI ar cy _ hN st sl 60  hG.1) (cwV 1 hts gX12_readCompare_X12_isSign rfl rfl rfl (by decide +kernel) ⟨Nat.le_of_ble_eq_true rfl, Nat.le_of_ble_eq_true rfl⟩) ⟨fun a U g mk q => ⟨q.1, mPre.blind q.2⟩, va_recv hK hP (ci := 11) (q0 := 0) rfl rfl, fun U hU hW => ⟨rfl, mPre.of hP hK hU hW⟩⟩ rfl rfl hl.1 rfl (lv_room (Nat.le_of_ble_eq_true rfl)) dX12_readCompare_3 ⟨Nat.le_of_ble_eq_true rfl, Nat.le_of_ble_eq_true rfl⟩) hS (fun q _ h => MA.le hS.1 q h) (MA.le hS.1) (fun r1 x t H locs ht hvm hw hB _ _ hS => ?_)
  have hP := mB.at ht hB
  clear hB ht hvm
  obtain ⟨rfl, hw⟩ := hw
  have hP : va_P (dC, dI) vwCl (mw ar cy st sl) _ := hP
  rcases hw with ⟨rfl, hf2⟩ | rfl
  · refine lv_if_ne (tgt := 33) hx hb dX12_readCompare_6 (by decide) (fun _ => ?_) (fun cc => absurd cc (by decide))
    refine lv_aload_n hx hb dX12_readCompare_33 rfl (lv_at hl 0 rfl) ?_
    refine va_get (D := (dC, dI)) (ci := 11) (v := .int (st 0 9)) (C := RX12) (T := TX12) (N := 47) hx hb hts ii_X12_readCompare hown hK hP 0 rfl rfl 9 (by decide) (hts _ mm_X12_readCompare_1) (fun _ hh => hh) rfl dX12_readCompare_34 ?_
    refine lv_topi (fun z3 ez3 => ?_)
    refine lv_istore_n (lv' := [(2, .int z3), (0, .ref (ar 0)), (1, .int (nI va))]) hx hb dX12_readCompare_37 rfl hl (by decide) rfl (fun ls hl => ?_)
    refine lv_aload_n hx hb dX12_readCompare_38 rfl (lv_at hl 1 rfl) ?_
    refine va_callv (va_runV (As := []) (rest := []) ⟨hx, hb, hml, hown, hts⟩ (m_go l dC dI ar cy _ hN st sl ga gb  hG.1 ((⟨by rw [hT.1], by rw [hT.2.1], by omega, by omega⟩ : TS st ga gb))) (cwV 0 hts gX12_readCompare_X12_go rfl rfl rfl (by decide +kernel) ⟨Nat.le_of_ble_eq_true rfl, Nat.le_of_ble_eq_true rfl⟩) ⟨fun a U g mk q => ⟨q.1, mPre.blind q.2⟩, va_recv hK hP (ci := 11) (q0 := 0) rfl rfl, fun U hU hW => ⟨rfl, mPre.of hP hK hU hW⟩⟩ rfl rfl hl.1 rfl (lv_room (Nat.le_of_ble_eq_true rfl)) dX12_readCompare_39 ⟨Nat.le_of_ble_eq_true rfl, Nat.le_of_ble_eq_true rfl⟩) hS (fun q _ h => MA.le hS.1 q h) (MA.le hS.1) (fun x t H locs ht hvm hw hB _ _ hS => ?_)
    have hP := mB.at ht hB
    clear hB ht hvm
    obtain ⟨st5, sl6⟩ := x
    obtain ⟨hG2, hL2, hw⟩ := hw
    have hL : LQ [7, 9] sl sl6 := hL.tr hL2 (by decide)
    clear hL2
    dsimp only at hw
    have hP : va_P (dC, dI) vwCl (mw ar cy st5 sl6) _ := hP
    have hG : MG [1, 2, 3, 6, 7, 13, 14, 15, 19, 20, 21, 22] st st5 := hG.tr hG2 (by decide)
    have hGst5 : MG [1, 2, 3, 6, 7, 8, 9, 10, 11, 12, 13, 14, 15, 16, 19, 20, 21, 22, 23] st st5 := hG2
    clear hG2
    obtain ⟨n7, hf8, hf9, hf10⟩ := hw
    have hf8c := hf8.2.2.1
    have hf8d := hf8.2.2.2
    refine lv_aload_n hx hb dX12_readCompare_42 rfl (lv_at hl 1 rfl) ?_
    refine lv_iconst (v := 0) hx hb dX12_readCompare_43 (by decide) ?_
    refine lv_sipush (v := 999) hx hb dX12_readCompare_44 (by decide) ?_
    refine va_calli (va_runV (As := [.int 0, .int 999]) (rest := []) ⟨hx, hb, hml, hown, hts⟩ (m_readNumber l dC dI ar cy _ hN st5 sl6 0 999 n7 gb  hG.1 ((⟨by rw [hf8.1], by rw [hf8.2.1], by omega, by omega⟩ : TS st5 n7 gb))) (cwV 2 hts gX12_readCompare_X12_readNumber rfl rfl rfl (by decide +kernel) ⟨Nat.le_of_ble_eq_true rfl, Nat.le_of_ble_eq_true rfl⟩) ⟨fun a U g mk q => ⟨q.1, mPre.blind q.2⟩, va_recv hK hP (ci := 11) (q0 := 0) rfl rfl, fun U hU hW => ⟨rfl, mPre.of hP hK hU hW⟩⟩ rfl rfl hl.1 rfl (lv_room (Nat.le_of_ble_eq_true rfl)) dX12_readCompare_47 ⟨Nat.le_of_ble_eq_true rfl, Nat.le_of_ble_eq_true rfl⟩) hS (fun q _ h => MA.le hS.1 q h) (MA.le hS.1) (fun r11 x t H locs ht hvm hw hB _ _ hS => ?_)
    have hP := mB.at ht hB
    clear hB ht hvm
    obtain ⟨st12, sl13⟩ := x
    obtain ⟨hG2, hL2, hw⟩ := hw
    have hL : LQ [7, 9] sl sl13 := hL.tr hL2 (by decide)
    clear hL2
    dsimp only at hw
    have hP : va_P (dC, dI) vwCl (mw ar cy st12 sl13) _ := hP
    have hG : MG [1, 2, 3, 6, 7, 13, 14, 15, 19, 20, 21, 22] st st12 := hG.tr hG2 (by decide)
    have hGst12 : MG [1, 2, 3, 6, 7, 8, 9, 10, 11, 12, 13, 14, 15, 19, 20, 21, 22] st5 st12 := hG2
    clear hG2
    rcases hw with ⟨n14, z15, rfl, hf16, hf17, hf18, hf19, hf20, hf21⟩ | rfl
    · have hf16c := hf16.2.2.1
      have hf16d := hf16.2.2.2
      obtain ⟨n22, hn22a, hn22b, rfl⟩ := zz_rng (a := 0) (b := 999) (by omega) hf20 (by omega) hf21
      refine lv_if_ne (tgt := 55) hx hb dX12_readCompare_50 (by decide) (fun _ => ?_) (fun cc => absurd cc (by decide))
      refine lv_aload_n hx hb dX12_readCompare_55 rfl (lv_at hl 1 rfl) ?_
      refine lv_aload_n hx hb dX12_readCompare_56 rfl (lv_at hl 1 rfl) ?_
      refine lv_bipush (v := 50) hx hb dX12_readCompare_57 (by decide) ?_
      refine lv_iload_n hx hb dX12_readCompare_59 rfl (lv_at hl 2 rfl) ?_
      refine lv_iadd hx hb dX12_readCompare_60 ?_
      refine zz_top (v := nI (50 + va)) (nI_add 50 va) ?_
      refine lv_iconst (v := 0) hx hb dX12_readCompare_61 (by decide) ?_
      refine lv_aload_n hx hb dX12_readCompare_62 rfl (lv_at hl 1 rfl) ?_
      refine va_get (D := (dC, dI)) (ci := 11) (v := .int (st12 0 13)) (C := RX12) (T := TX12) (N := 47) hx hb hts ii_X12_readCompare hown hK hP 0 rfl rfl 13 (by decide) (hts _ mm_X12_readCompare_2) (fun _ hh => hh) rfl dX12_readCompare_63 ?_
      refine zz_top (v := (nI n22)) (by show st12 0 13 = _; rw [hf19]) ?_
      refine lv_iload_n hx hb dX12_readCompare_66 rfl (lv_at hl 0 rfl) ?_
      refine va_calli (va_runV (As := [.int (nI (50 + va)), .int 0, .int (nI n22), .int z3]) (rest := [.ref (ar 0)]) ⟨hx, hb, hml, hown, hts⟩ (m_saysOne50 l dC dI ar cy _ hN st12 sl13 (50 + va) 0 (nI n22) z3 gn (by omega) (by omega) (by omega) hG.1 (by rw [hGst12.2 0 43 (by decide), hGst5.2 0 43 (by decide), h43]) (by omega) ((NKm.mg hGst12 (by decide) (NKm.mg hGst5 (by decide) hNK)))) (cwV 4 hts gX12_readCompare_X12_saysOne rfl rfl rfl (by decide +kernel) ⟨Nat.le_of_ble_eq_true rfl, Nat.le_of_ble_eq_true rfl⟩) ⟨fun a U g mk q => ⟨q.1, mPre.blind q.2⟩, va_recv hK hP (ci := 11) (q0 := 0) rfl rfl, fun U hU hW => ⟨rfl, mPre.of hP hK hU hW⟩⟩ rfl rfl hl.1 rfl (lv_room (Nat.le_of_ble_eq_true rfl)) dX12_readCompare_67 ⟨Nat.le_of_ble_eq_true rfl, Nat.le_of_ble_eq_true rfl⟩) hS (fun q _ h => MA.le hS.1 q h) (MA.le hS.1) (fun r23 x t H locs ht hvm hw hB _ _ hS => ?_)
      have hP := mB.at ht hB
      clear hB ht hvm
      obtain ⟨st24, sl25⟩ := x
      obtain ⟨hG2, hL2, hw⟩ := hw
      have hL : LQ [7, 9] sl sl25 := hL.tr hL2 (by decide)
      clear hL2
      dsimp only at hw
      have hP : va_P (dC, dI) vwCl (mw ar cy st24 sl25) _ := hP
      have hG : MG [1, 2, 3, 6, 7, 13, 14, 15, 19, 20, 21, 22] st st24 := hG.tr hG2 (by decide)
      have hGst24 : MG [1, 2, 3, 4, 5, 6, 7, 10, 11, 12, 13, 14, 15, 16, 17, 19, 20, 21, 22, 23] st12 st24 := hG2
      clear hG2
      obtain ⟨n26, rfl, hf27, hf28, hf29⟩ := hw
      refine va_put (D := (dC, dI)) (ci := 11) (v := .int (nI n26)) (ty := .int) (C := RX12) (T := TX12) (N := 47) hx hb hts ii_X12_readCompare tyX12 tyX12_ok nmX12 hown hK hP (mD hN _ _ _ _) hS 0 rfl rfl 46 (by decide) (hts _ mm_X12_readCompare_3) (fun _ hh => hh) rfl (by decide +kernel) rfl rfl (Nat.le_of_ble_eq_true rfl) dX12_readCompare_70 (fun H locs hP _ hS => ?_)
      have hP : va_P (dC, dI) vwCl (mw ar cy (up2 st24 0 46 (nI n26)) sl25) H := hP
      obtain ⟨st30, est30⟩ : ∃ y, y = up2 st24 0 46 (nI n26) := ⟨_, rfl⟩
      have hG : MG [1, 2, 3, 6, 7, 13, 14, 15, 19, 20, 21, 22] st st30 := by rw [est30]; exact hG.up (rn (n := n26) (by decide : mr 0 46 = 60) (by omega)) (pn (by decide : pcl 0 46 = 12) (by decide))
      rw [← est30] at hP
      refine lv_iconst (v := 1) hx hb dX12_readCompare_73 (by decide) ?_
      exact W.zret (v := 1) hx hb hr rfl (fun t ht hW => ⟨⟨1, (st30, sl25), rfl, ⟨hG, hL, Or.inl (⟨n14, (gn + 1), go, n26, rfl, (show TS st30 n14 gb from ⟨by rw [est30, up2_ne (r := 0) (k := 46) (a := 0) (j := 5) _ _ (by omega), hGst24.2 0 5 (by decide), hf16.1], by rw [est30, up2_ne (r := 0) (k := 46) (a := 0) (j := 3) _ _ (by omega), hGst24.2 0 3 (by decide), hf16.2.1], by omega, by omega⟩), by omega, by show st30 0 43 = (nI (gn + 1)); rw [est30, up2_ne (r := 0) (k := 46) (a := 0) (j := 43) _ _ (by omega), hf28], by show st30 0 44 = (nI go); rw [est30, up2_ne (r := 0) (k := 46) (a := 0) (j := 44) _ _ (by omega), hGst24.2 0 44 (by decide), hGst12.2 0 44 (by decide), hGst5.2 0 44 (by decide), h44], by show st30 0 45 = 7; rw [est30, up2_ne (r := 0) (k := 46) (a := 0) (j := 45) _ _ (by omega), hGst24.2 0 45 (by decide), hGst12.2 0 45 (by decide), hGst5.2 0 45 (by decide), h45], by show st30 0 46 = (nI n26); rw [est30, up2_same], by omega, by omega, by omega, by omega, by omega, (show NKm st30 by rw [est30]; exact (show NKm st24 from hf29))⟩)⟩, mB.of ht hP⟩, hS.F ht⟩) hS.2.2 dX12_readCompare_74
    · refine lv_if_ne (tgt := 55) hx hb dX12_readCompare_50 (by decide) (fun cc => absurd (by decide) cc) (fun _ => ?_)
      refine lv_iconst (v := 0) hx hb dX12_readCompare_53 (by decide) ?_
      exact W.zret (v := 0) hx hb hr rfl (fun t ht hW => ⟨⟨0, (st12, sl13), rfl, ⟨hG, hL, Or.inr (⟨rfl, by show st12 0 45 = _; rw [hGst12.2 0 45 (by decide), hGst5.2 0 45 (by decide), h45], (NKm.mg hGst12 (by decide) (NKm.mg hGst5 (by decide) hNK))⟩)⟩, mB.of ht hP⟩, hS.F ht⟩) hS.2.2 dX12_readCompare_54
  · refine lv_if_ne (tgt := 33) hx hb dX12_readCompare_6 (by decide) (fun cc => absurd (by decide) cc) (fun _ => ?_)
    refine lv_aload_n hx hb dX12_readCompare_9 rfl (lv_at hl 0 rfl) ?_
    refine lv_bipush (v := 61) hx hb dX12_readCompare_10 (by decide) ?_
    refine va_calli (va_runV (As := [.int 61]) (rest := []) ⟨hx, hb, hml, hown, hts⟩ (m_isSign l dC dI ar cy _ hN st sl 61  hG.1) (cwV 1 hts gX12_readCompare_X12_isSign rfl rfl rfl (by decide +kernel) ⟨Nat.le_of_ble_eq_true rfl, Nat.le_of_ble_eq_true rfl⟩) ⟨fun a U g mk q => ⟨q.1, mPre.blind q.2⟩, va_recv hK hP (ci := 11) (q0 := 0) rfl rfl, fun U hU hW => ⟨rfl, mPre.of hP hK hU hW⟩⟩ rfl rfl hl.1 rfl (lv_room (Nat.le_of_ble_eq_true rfl)) dX12_readCompare_12 ⟨Nat.le_of_ble_eq_true rfl, Nat.le_of_ble_eq_true rfl⟩) hS (fun q _ h => MA.le hS.1 q h) (MA.le hS.1) (fun r31 x t H locs ht hvm hw hB _ _ hS => ?_)
    have hP := mB.at ht hB
    clear hB ht hvm
    obtain ⟨rfl, hw⟩ := hw
    have hP : va_P (dC, dI) vwCl (mw ar cy st sl) _ := hP
    rcases hw with ⟨rfl, hf32⟩ | rfl
    · refine lv_if_ne (tgt := 33) hx hb dX12_readCompare_15 (by decide) (fun _ => ?_) (fun cc => absurd cc (by decide))
      refine lv_aload_n hx hb dX12_readCompare_33 rfl (lv_at hl 0 rfl) ?_
      refine va_get (D := (dC, dI)) (ci := 11) (v := .int (st 0 9)) (C := RX12) (T := TX12) (N := 47) hx hb hts ii_X12_readCompare hown hK hP 0 rfl rfl 9 (by decide) (hts _ mm_X12_readCompare_1) (fun _ hh => hh) rfl dX12_readCompare_34 ?_
      refine lv_topi (fun z33 ez33 => ?_)
      refine lv_istore_n (lv' := [(2, .int z33), (0, .ref (ar 0)), (1, .int (nI va))]) hx hb dX12_readCompare_37 rfl hl (by decide) rfl (fun ls hl => ?_)
      refine lv_aload_n hx hb dX12_readCompare_38 rfl (lv_at hl 1 rfl) ?_
      refine va_callv (va_runV (As := []) (rest := []) ⟨hx, hb, hml, hown, hts⟩ (m_go l dC dI ar cy _ hN st sl ga gb  hG.1 ((⟨by rw [hT.1], by rw [hT.2.1], by omega, by omega⟩ : TS st ga gb))) (cwV 0 hts gX12_readCompare_X12_go rfl rfl rfl (by decide +kernel) ⟨Nat.le_of_ble_eq_true rfl, Nat.le_of_ble_eq_true rfl⟩) ⟨fun a U g mk q => ⟨q.1, mPre.blind q.2⟩, va_recv hK hP (ci := 11) (q0 := 0) rfl rfl, fun U hU hW => ⟨rfl, mPre.of hP hK hU hW⟩⟩ rfl rfl hl.1 rfl (lv_room (Nat.le_of_ble_eq_true rfl)) dX12_readCompare_39 ⟨Nat.le_of_ble_eq_true rfl, Nat.le_of_ble_eq_true rfl⟩) hS (fun q _ h => MA.le hS.1 q h) (MA.le hS.1) (fun x t H locs ht hvm hw hB _ _ hS => ?_)
      have hP := mB.at ht hB
      clear hB ht hvm
      obtain ⟨st35, sl36⟩ := x
      obtain ⟨hG2, hL2, hw⟩ := hw
      have hL : LQ [7, 9] sl sl36 := hL.tr hL2 (by decide)
      clear hL2
      dsimp only at hw
      have hP : va_P (dC, dI) vwCl (mw ar cy st35 sl36) _ := hP
      have hG : MG [1, 2, 3, 6, 7, 13, 14, 15, 19, 20, 21, 22] st st35 := hG.tr hG2 (by decide)
      have hGst35 : MG [1, 2, 3, 6, 7, 8, 9, 10, 11, 12, 13, 14, 15, 16, 19, 20, 21, 22, 23] st st35 := hG2
      clear hG2
      obtain ⟨n37, hf38, hf39, hf40⟩ := hw
      have hf38c := hf38.2.2.1
      have hf38d := hf38.2.2.2
      refine lv_aload_n hx hb dX12_readCompare_42 rfl (lv_at hl 1 rfl) ?_
      refine lv_iconst (v := 0) hx hb dX12_readCompare_43 (by decide) ?_
      refine lv_sipush (v := 999) hx hb dX12_readCompare_44 (by decide) ?_
      refine va_calli (va_runV (As := [.int 0, .int 999]) (rest := []) ⟨hx, hb, hml, hown, hts⟩ (m_readNumber l dC dI ar cy _ hN st35 sl36 0 999 n37 gb  hG.1 ((⟨by rw [hf38.1], by rw [hf38.2.1], by omega, by omega⟩ : TS st35 n37 gb))) (cwV 2 hts gX12_readCompare_X12_readNumber rfl rfl rfl (by decide +kernel) ⟨Nat.le_of_ble_eq_true rfl, Nat.le_of_ble_eq_true rfl⟩) ⟨fun a U g mk q => ⟨q.1, mPre.blind q.2⟩, va_recv hK hP (ci := 11) (q0 := 0) rfl rfl, fun U hU hW => ⟨rfl, mPre.of hP hK hU hW⟩⟩ rfl rfl hl.1 rfl (lv_room (Nat.le_of_ble_eq_true rfl)) dX12_readCompare_47 ⟨Nat.le_of_ble_eq_true rfl, Nat.le_of_ble_eq_true rfl⟩) hS (fun q _ h => MA.le hS.1 q h) (MA.le hS.1) (fun r41 x t H locs ht hvm hw hB _ _ hS => ?_)
      have hP := mB.at ht hB
      clear hB ht hvm
      obtain ⟨st42, sl43⟩ := x
      obtain ⟨hG2, hL2, hw⟩ := hw
      have hL : LQ [7, 9] sl sl43 := hL.tr hL2 (by decide)
      clear hL2
      dsimp only at hw
      have hP : va_P (dC, dI) vwCl (mw ar cy st42 sl43) _ := hP
      have hG : MG [1, 2, 3, 6, 7, 13, 14, 15, 19, 20, 21, 22] st st42 := hG.tr hG2 (by decide)
      have hGst42 : MG [1, 2, 3, 6, 7, 8, 9, 10, 11, 12, 13, 14, 15, 19, 20, 21, 22] st35 st42 := hG2
      clear hG2
      rcases hw with ⟨n44, z45, rfl, hf46, hf47, hf48, hf49, hf50, hf51⟩ | rfl
      · have hf46c := hf46.2.2.1
        have hf46d := hf46.2.2.2
        obtain ⟨n52, hn52a, hn52b, rfl⟩ := zz_rng (a := 0) (b := 999) (by omega) hf50 (by omega) hf51
        refine lv_if_ne (tgt := 55) hx hb dX12_readCompare_50 (by decide) (fun _ => ?_) (fun cc => absurd cc (by decide))
        refine lv_aload_n hx hb dX12_readCompare_55 rfl (lv_at hl 1 rfl) ?_
        refine lv_aload_n hx hb dX12_readCompare_56 rfl (lv_at hl 1 rfl) ?_
        refine lv_bipush (v := 50) hx hb dX12_readCompare_57 (by decide) ?_
        refine lv_iload_n hx hb dX12_readCompare_59 rfl (lv_at hl 2 rfl) ?_
        refine lv_iadd hx hb dX12_readCompare_60 ?_
        refine zz_top (v := nI (50 + va)) (nI_add 50 va) ?_
        refine lv_iconst (v := 0) hx hb dX12_readCompare_61 (by decide) ?_
        refine lv_aload_n hx hb dX12_readCompare_62 rfl (lv_at hl 1 rfl) ?_
        refine va_get (D := (dC, dI)) (ci := 11) (v := .int (st42 0 13)) (C := RX12) (T := TX12) (N := 47) hx hb hts ii_X12_readCompare hown hK hP 0 rfl rfl 13 (by decide) (hts _ mm_X12_readCompare_2) (fun _ hh => hh) rfl dX12_readCompare_63 ?_
        refine zz_top (v := (nI n52)) (by show st42 0 13 = _; rw [hf49]) ?_
        refine lv_iload_n hx hb dX12_readCompare_66 rfl (lv_at hl 0 rfl) ?_
        refine va_calli (va_runV (As := [.int (nI (50 + va)), .int 0, .int (nI n52), .int z33]) (rest := [.ref (ar 0)]) ⟨hx, hb, hml, hown, hts⟩ (m_saysOne50 l dC dI ar cy _ hN st42 sl43 (50 + va) 0 (nI n52) z33 gn (by omega) (by omega) (by omega) hG.1 (by rw [hGst42.2 0 43 (by decide), hGst35.2 0 43 (by decide), h43]) (by omega) ((NKm.mg hGst42 (by decide) (NKm.mg hGst35 (by decide) hNK)))) (cwV 4 hts gX12_readCompare_X12_saysOne rfl rfl rfl (by decide +kernel) ⟨Nat.le_of_ble_eq_true rfl, Nat.le_of_ble_eq_true rfl⟩) ⟨fun a U g mk q => ⟨q.1, mPre.blind q.2⟩, va_recv hK hP (ci := 11) (q0 := 0) rfl rfl, fun U hU hW => ⟨rfl, mPre.of hP hK hU hW⟩⟩ rfl rfl hl.1 rfl (lv_room (Nat.le_of_ble_eq_true rfl)) dX12_readCompare_67 ⟨Nat.le_of_ble_eq_true rfl, Nat.le_of_ble_eq_true rfl⟩) hS (fun q _ h => MA.le hS.1 q h) (MA.le hS.1) (fun r53 x t H locs ht hvm hw hB _ _ hS => ?_)
        have hP := mB.at ht hB
        clear hB ht hvm
        obtain ⟨st54, sl55⟩ := x
        obtain ⟨hG2, hL2, hw⟩ := hw
        have hL : LQ [7, 9] sl sl55 := hL.tr hL2 (by decide)
        clear hL2
        dsimp only at hw
        have hP : va_P (dC, dI) vwCl (mw ar cy st54 sl55) _ := hP
        have hG : MG [1, 2, 3, 6, 7, 13, 14, 15, 19, 20, 21, 22] st st54 := hG.tr hG2 (by decide)
        have hGst54 : MG [1, 2, 3, 4, 5, 6, 7, 10, 11, 12, 13, 14, 15, 16, 17, 19, 20, 21, 22, 23] st42 st54 := hG2
        clear hG2
        obtain ⟨n56, rfl, hf57, hf58, hf59⟩ := hw
        refine va_put (D := (dC, dI)) (ci := 11) (v := .int (nI n56)) (ty := .int) (C := RX12) (T := TX12) (N := 47) hx hb hts ii_X12_readCompare tyX12 tyX12_ok nmX12 hown hK hP (mD hN _ _ _ _) hS 0 rfl rfl 46 (by decide) (hts _ mm_X12_readCompare_3) (fun _ hh => hh) rfl (by decide +kernel) rfl rfl (Nat.le_of_ble_eq_true rfl) dX12_readCompare_70 (fun H locs hP _ hS => ?_)
        have hP : va_P (dC, dI) vwCl (mw ar cy (up2 st54 0 46 (nI n56)) sl55) H := hP
        obtain ⟨st60, est60⟩ : ∃ y, y = up2 st54 0 46 (nI n56) := ⟨_, rfl⟩
        have hG : MG [1, 2, 3, 6, 7, 13, 14, 15, 19, 20, 21, 22] st st60 := by rw [est60]; exact hG.up (rn (n := n56) (by decide : mr 0 46 = 60) (by omega)) (pn (by decide : pcl 0 46 = 12) (by decide))
        rw [← est60] at hP
        refine lv_iconst (v := 1) hx hb dX12_readCompare_73 (by decide) ?_
        exact W.zret (v := 1) hx hb hr rfl (fun t ht hW => ⟨⟨1, (st60, sl55), rfl, ⟨hG, hL, Or.inl (⟨n44, (gn + 1), go, n56, rfl, (show TS st60 n44 gb from ⟨by rw [est60, up2_ne (r := 0) (k := 46) (a := 0) (j := 5) _ _ (by omega), hGst54.2 0 5 (by decide), hf46.1], by rw [est60, up2_ne (r := 0) (k := 46) (a := 0) (j := 3) _ _ (by omega), hGst54.2 0 3 (by decide), hf46.2.1], by omega, by omega⟩), by omega, by show st60 0 43 = (nI (gn + 1)); rw [est60, up2_ne (r := 0) (k := 46) (a := 0) (j := 43) _ _ (by omega), hf58], by show st60 0 44 = (nI go); rw [est60, up2_ne (r := 0) (k := 46) (a := 0) (j := 44) _ _ (by omega), hGst54.2 0 44 (by decide), hGst42.2 0 44 (by decide), hGst35.2 0 44 (by decide), h44], by show st60 0 45 = 7; rw [est60, up2_ne (r := 0) (k := 46) (a := 0) (j := 45) _ _ (by omega), hGst54.2 0 45 (by decide), hGst42.2 0 45 (by decide), hGst35.2 0 45 (by decide), h45], by show st60 0 46 = (nI n56); rw [est60, up2_same], by omega, by omega, by omega, by omega, by omega, (show NKm st60 by rw [est60]; exact (show NKm st54 from hf59))⟩)⟩, mB.of ht hP⟩, hS.F ht⟩) hS.2.2 dX12_readCompare_74
      · refine lv_if_ne (tgt := 55) hx hb dX12_readCompare_50 (by decide) (fun cc => absurd (by decide) cc) (fun _ => ?_)
        refine lv_iconst (v := 0) hx hb dX12_readCompare_53 (by decide) ?_
        exact W.zret (v := 0) hx hb hr rfl (fun t ht hW => ⟨⟨0, (st42, sl43), rfl, ⟨hG, hL, Or.inr (⟨rfl, by show st42 0 45 = _; rw [hGst42.2 0 45 (by decide), hGst35.2 0 45 (by decide), h45], (NKm.mg hGst42 (by decide) (NKm.mg hGst35 (by decide) hNK))⟩)⟩, mB.of ht hP⟩, hS.F ht⟩) hS.2.2 dX12_readCompare_54
    · refine lv_if_ne (tgt := 33) hx hb dX12_readCompare_15 (by decide) (fun cc => absurd (by decide) cc) (fun _ => ?_)
      refine lv_aload_n hx hb dX12_readCompare_18 rfl (lv_at hl 0 rfl) ?_
      refine lv_bipush (v := 62) hx hb dX12_readCompare_19 (by decide) ?_
      refine va_calli (va_runV (As := [.int 62]) (rest := []) ⟨hx, hb, hml, hown, hts⟩ (m_isSign l dC dI ar cy _ hN st sl 62  hG.1) (cwV 1 hts gX12_readCompare_X12_isSign rfl rfl rfl (by decide +kernel) ⟨Nat.le_of_ble_eq_true rfl, Nat.le_of_ble_eq_true rfl⟩) ⟨fun a U g mk q => ⟨q.1, mPre.blind q.2⟩, va_recv hK hP (ci := 11) (q0 := 0) rfl rfl, fun U hU hW => ⟨rfl, mPre.of hP hK hU hW⟩⟩ rfl rfl hl.1 rfl (lv_room (Nat.le_of_ble_eq_true rfl)) dX12_readCompare_21 ⟨Nat.le_of_ble_eq_true rfl, Nat.le_of_ble_eq_true rfl⟩) hS (fun q _ h => MA.le hS.1 q h) (MA.le hS.1) (fun r61 x t H locs ht hvm hw hB _ _ hS => ?_)
      have hP := mB.at ht hB
      clear hB ht hvm
      obtain ⟨rfl, hw⟩ := hw
      have hP : va_P (dC, dI) vwCl (mw ar cy st sl) _ := hP
      rcases hw with ⟨rfl, hf62⟩ | rfl
      · refine lv_if_ne (tgt := 33) hx hb dX12_readCompare_24 (by decide) (fun _ => ?_) (fun cc => absurd cc (by decide))
        refine lv_aload_n hx hb dX12_readCompare_33 rfl (lv_at hl 0 rfl) ?_
        refine va_get (D := (dC, dI)) (ci := 11) (v := .int (st 0 9)) (C := RX12) (T := TX12) (N := 47) hx hb hts ii_X12_readCompare hown hK hP 0 rfl rfl 9 (by decide) (hts _ mm_X12_readCompare_1) (fun _ hh => hh) rfl dX12_readCompare_34 ?_
        refine lv_topi (fun z63 ez63 => ?_)
        refine lv_istore_n (lv' := [(2, .int z63), (0, .ref (ar 0)), (1, .int (nI va))]) hx hb dX12_readCompare_37 rfl hl (by decide) rfl (fun ls hl => ?_)
        refine lv_aload_n hx hb dX12_readCompare_38 rfl (lv_at hl 1 rfl) ?_
        refine va_callv (va_runV (As := []) (rest := []) ⟨hx, hb, hml, hown, hts⟩ (m_go l dC dI ar cy _ hN st sl ga gb  hG.1 ((⟨by rw [hT.1], by rw [hT.2.1], by omega, by omega⟩ : TS st ga gb))) (cwV 0 hts gX12_readCompare_X12_go rfl rfl rfl (by decide +kernel) ⟨Nat.le_of_ble_eq_true rfl, Nat.le_of_ble_eq_true rfl⟩) ⟨fun a U g mk q => ⟨q.1, mPre.blind q.2⟩, va_recv hK hP (ci := 11) (q0 := 0) rfl rfl, fun U hU hW => ⟨rfl, mPre.of hP hK hU hW⟩⟩ rfl rfl hl.1 rfl (lv_room (Nat.le_of_ble_eq_true rfl)) dX12_readCompare_39 ⟨Nat.le_of_ble_eq_true rfl, Nat.le_of_ble_eq_true rfl⟩) hS (fun q _ h => MA.le hS.1 q h) (MA.le hS.1) (fun x t H locs ht hvm hw hB _ _ hS => ?_)
        have hP := mB.at ht hB
        clear hB ht hvm
        obtain ⟨st65, sl66⟩ := x
        obtain ⟨hG2, hL2, hw⟩ := hw
        have hL : LQ [7, 9] sl sl66 := hL.tr hL2 (by decide)
        clear hL2
        dsimp only at hw
        have hP : va_P (dC, dI) vwCl (mw ar cy st65 sl66) _ := hP
        have hG : MG [1, 2, 3, 6, 7, 13, 14, 15, 19, 20, 21, 22] st st65 := hG.tr hG2 (by decide)
        have hGst65 : MG [1, 2, 3, 6, 7, 8, 9, 10, 11, 12, 13, 14, 15, 16, 19, 20, 21, 22, 23] st st65 := hG2
        clear hG2
        obtain ⟨n67, hf68, hf69, hf70⟩ := hw
        have hf68c := hf68.2.2.1
        have hf68d := hf68.2.2.2
        refine lv_aload_n hx hb dX12_readCompare_42 rfl (lv_at hl 1 rfl) ?_
        refine lv_iconst (v := 0) hx hb dX12_readCompare_43 (by decide) ?_
        refine lv_sipush (v := 999) hx hb dX12_readCompare_44 (by decide) ?_
        refine va_calli (va_runV (As := [.int 0, .int 999]) (rest := []) ⟨hx, hb, hml, hown, hts⟩ (m_readNumber l dC dI ar cy _ hN st65 sl66 0 999 n67 gb  hG.1 ((⟨by rw [hf68.1], by rw [hf68.2.1], by omega, by omega⟩ : TS st65 n67 gb))) (cwV 2 hts gX12_readCompare_X12_readNumber rfl rfl rfl (by decide +kernel) ⟨Nat.le_of_ble_eq_true rfl, Nat.le_of_ble_eq_true rfl⟩) ⟨fun a U g mk q => ⟨q.1, mPre.blind q.2⟩, va_recv hK hP (ci := 11) (q0 := 0) rfl rfl, fun U hU hW => ⟨rfl, mPre.of hP hK hU hW⟩⟩ rfl rfl hl.1 rfl (lv_room (Nat.le_of_ble_eq_true rfl)) dX12_readCompare_47 ⟨Nat.le_of_ble_eq_true rfl, Nat.le_of_ble_eq_true rfl⟩) hS (fun q _ h => MA.le hS.1 q h) (MA.le hS.1) (fun r71 x t H locs ht hvm hw hB _ _ hS => ?_)
        have hP := mB.at ht hB
        clear hB ht hvm
        obtain ⟨st72, sl73⟩ := x
        obtain ⟨hG2, hL2, hw⟩ := hw
        have hL : LQ [7, 9] sl sl73 := hL.tr hL2 (by decide)
        clear hL2
        dsimp only at hw
        have hP : va_P (dC, dI) vwCl (mw ar cy st72 sl73) _ := hP
        have hG : MG [1, 2, 3, 6, 7, 13, 14, 15, 19, 20, 21, 22] st st72 := hG.tr hG2 (by decide)
        have hGst72 : MG [1, 2, 3, 6, 7, 8, 9, 10, 11, 12, 13, 14, 15, 19, 20, 21, 22] st65 st72 := hG2
        clear hG2
        rcases hw with ⟨n74, z75, rfl, hf76, hf77, hf78, hf79, hf80, hf81⟩ | rfl
        · have hf76c := hf76.2.2.1
          have hf76d := hf76.2.2.2
          obtain ⟨n82, hn82a, hn82b, rfl⟩ := zz_rng (a := 0) (b := 999) (by omega) hf80 (by omega) hf81
          refine lv_if_ne (tgt := 55) hx hb dX12_readCompare_50 (by decide) (fun _ => ?_) (fun cc => absurd cc (by decide))
          refine lv_aload_n hx hb dX12_readCompare_55 rfl (lv_at hl 1 rfl) ?_
          refine lv_aload_n hx hb dX12_readCompare_56 rfl (lv_at hl 1 rfl) ?_
          refine lv_bipush (v := 50) hx hb dX12_readCompare_57 (by decide) ?_
          refine lv_iload_n hx hb dX12_readCompare_59 rfl (lv_at hl 2 rfl) ?_
          refine lv_iadd hx hb dX12_readCompare_60 ?_
          refine zz_top (v := nI (50 + va)) (nI_add 50 va) ?_
          refine lv_iconst (v := 0) hx hb dX12_readCompare_61 (by decide) ?_
          refine lv_aload_n hx hb dX12_readCompare_62 rfl (lv_at hl 1 rfl) ?_
          refine va_get (D := (dC, dI)) (ci := 11) (v := .int (st72 0 13)) (C := RX12) (T := TX12) (N := 47) hx hb hts ii_X12_readCompare hown hK hP 0 rfl rfl 13 (by decide) (hts _ mm_X12_readCompare_2) (fun _ hh => hh) rfl dX12_readCompare_63 ?_
          refine zz_top (v := (nI n82)) (by show st72 0 13 = _; rw [hf79]) ?_
          refine lv_iload_n hx hb dX12_readCompare_66 rfl (lv_at hl 0 rfl) ?_
          refine va_calli (va_runV (As := [.int (nI (50 + va)), .int 0, .int (nI n82), .int z63]) (rest := [.ref (ar 0)]) ⟨hx, hb, hml, hown, hts⟩ (m_saysOne50 l dC dI ar cy _ hN st72 sl73 (50 + va) 0 (nI n82) z63 gn (by omega) (by omega) (by omega) hG.1 (by rw [hGst72.2 0 43 (by decide), hGst65.2 0 43 (by decide), h43]) (by omega) ((NKm.mg hGst72 (by decide) (NKm.mg hGst65 (by decide) hNK)))) (cwV 4 hts gX12_readCompare_X12_saysOne rfl rfl rfl (by decide +kernel) ⟨Nat.le_of_ble_eq_true rfl, Nat.le_of_ble_eq_true rfl⟩) ⟨fun a U g mk q => ⟨q.1, mPre.blind q.2⟩, va_recv hK hP (ci := 11) (q0 := 0) rfl rfl, fun U hU hW => ⟨rfl, mPre.of hP hK hU hW⟩⟩ rfl rfl hl.1 rfl (lv_room (Nat.le_of_ble_eq_true rfl)) dX12_readCompare_67 ⟨Nat.le_of_ble_eq_true rfl, Nat.le_of_ble_eq_true rfl⟩) hS (fun q _ h => MA.le hS.1 q h) (MA.le hS.1) (fun r83 x t H locs ht hvm hw hB _ _ hS => ?_)
          have hP := mB.at ht hB
          clear hB ht hvm
          obtain ⟨st84, sl85⟩ := x
          obtain ⟨hG2, hL2, hw⟩ := hw
          have hL : LQ [7, 9] sl sl85 := hL.tr hL2 (by decide)
          clear hL2
          dsimp only at hw
          have hP : va_P (dC, dI) vwCl (mw ar cy st84 sl85) _ := hP
          have hG : MG [1, 2, 3, 6, 7, 13, 14, 15, 19, 20, 21, 22] st st84 := hG.tr hG2 (by decide)
          have hGst84 : MG [1, 2, 3, 4, 5, 6, 7, 10, 11, 12, 13, 14, 15, 16, 17, 19, 20, 21, 22, 23] st72 st84 := hG2
          clear hG2
          obtain ⟨n86, rfl, hf87, hf88, hf89⟩ := hw
          refine va_put (D := (dC, dI)) (ci := 11) (v := .int (nI n86)) (ty := .int) (C := RX12) (T := TX12) (N := 47) hx hb hts ii_X12_readCompare tyX12 tyX12_ok nmX12 hown hK hP (mD hN _ _ _ _) hS 0 rfl rfl 46 (by decide) (hts _ mm_X12_readCompare_3) (fun _ hh => hh) rfl (by decide +kernel) rfl rfl (Nat.le_of_ble_eq_true rfl) dX12_readCompare_70 (fun H locs hP _ hS => ?_)
          have hP : va_P (dC, dI) vwCl (mw ar cy (up2 st84 0 46 (nI n86)) sl85) H := hP
          obtain ⟨st90, est90⟩ : ∃ y, y = up2 st84 0 46 (nI n86) := ⟨_, rfl⟩
          have hG : MG [1, 2, 3, 6, 7, 13, 14, 15, 19, 20, 21, 22] st st90 := by rw [est90]; exact hG.up (rn (n := n86) (by decide : mr 0 46 = 60) (by omega)) (pn (by decide : pcl 0 46 = 12) (by decide))
          rw [← est90] at hP
          refine lv_iconst (v := 1) hx hb dX12_readCompare_73 (by decide) ?_
          exact W.zret (v := 1) hx hb hr rfl (fun t ht hW => ⟨⟨1, (st90, sl85), rfl, ⟨hG, hL, Or.inl (⟨n74, (gn + 1), go, n86, rfl, (show TS st90 n74 gb from ⟨by rw [est90, up2_ne (r := 0) (k := 46) (a := 0) (j := 5) _ _ (by omega), hGst84.2 0 5 (by decide), hf76.1], by rw [est90, up2_ne (r := 0) (k := 46) (a := 0) (j := 3) _ _ (by omega), hGst84.2 0 3 (by decide), hf76.2.1], by omega, by omega⟩), by omega, by show st90 0 43 = (nI (gn + 1)); rw [est90, up2_ne (r := 0) (k := 46) (a := 0) (j := 43) _ _ (by omega), hf88], by show st90 0 44 = (nI go); rw [est90, up2_ne (r := 0) (k := 46) (a := 0) (j := 44) _ _ (by omega), hGst84.2 0 44 (by decide), hGst72.2 0 44 (by decide), hGst65.2 0 44 (by decide), h44], by show st90 0 45 = 7; rw [est90, up2_ne (r := 0) (k := 46) (a := 0) (j := 45) _ _ (by omega), hGst84.2 0 45 (by decide), hGst72.2 0 45 (by decide), hGst65.2 0 45 (by decide), h45], by show st90 0 46 = (nI n86); rw [est90, up2_same], by omega, by omega, by omega, by omega, by omega, (show NKm st90 by rw [est90]; exact (show NKm st84 from hf89))⟩)⟩, mB.of ht hP⟩, hS.F ht⟩) hS.2.2 dX12_readCompare_74
        · refine lv_if_ne (tgt := 55) hx hb dX12_readCompare_50 (by decide) (fun cc => absurd (by decide) cc) (fun _ => ?_)
          refine lv_iconst (v := 0) hx hb dX12_readCompare_53 (by decide) ?_
          exact W.zret (v := 0) hx hb hr rfl (fun t ht hW => ⟨⟨0, (st72, sl73), rfl, ⟨hG, hL, Or.inr (⟨rfl, by show st72 0 45 = _; rw [hGst72.2 0 45 (by decide), hGst65.2 0 45 (by decide), h45], (NKm.mg hGst72 (by decide) (NKm.mg hGst65 (by decide) hNK))⟩)⟩, mB.of ht hP⟩, hS.F ht⟩) hS.2.2 dX12_readCompare_54
      · refine lv_if_ne (tgt := 33) hx hb dX12_readCompare_24 (by decide) (fun cc => absurd (by decide) cc) (fun _ => ?_)
        refine lv_aload_n hx hb dX12_readCompare_27 rfl (lv_at hl 0 rfl) ?_
        refine lv_iconst (v := 1) hx hb dX12_readCompare_28 (by decide) ?_
        refine va_calli (va_runV (As := [.int 1]) (rest := []) ⟨hx, hb, hml, hown, hts⟩ (m_bad l dC dI ar cy _ hN st sl 1  hG.1) (cwV 1 hts gX12_readCompare_X12_bad rfl rfl rfl (by decide +kernel) ⟨Nat.le_of_ble_eq_true rfl, Nat.le_of_ble_eq_true rfl⟩) ⟨fun a U g mk q => ⟨q.1, mPre.blind q.2⟩, va_recv hK hP (ci := 11) (q0 := 0) rfl rfl, fun U hU hW => ⟨rfl, mPre.of hP hK hU hW⟩⟩ rfl rfl hl.1 rfl (lv_room (Nat.le_of_ble_eq_true rfl)) dX12_readCompare_29 ⟨Nat.le_of_ble_eq_true rfl, Nat.le_of_ble_eq_true rfl⟩) hS (fun q _ h => MA.le hS.1 q h) (MA.le hS.1) (fun r91 x t H locs ht hvm hw hB _ _ hS => ?_)
        have hP := mB.at ht hB
        clear hB ht hvm
        obtain ⟨st92, sl93⟩ := x
        obtain ⟨hG2, hL2, hw⟩ := hw
        have hL : LQ [7, 9] sl sl93 := hL.tr hL2 (by decide)
        clear hL2
        have hP : va_P (dC, dI) vwCl (mw ar cy st92 sl93) _ := hP
        have hG : MG [1, 2, 3, 6, 7, 13, 14, 15, 19, 20, 21, 22] st st92 := hG.tr hG2 (by decide)
        have hGst92 : MG [1, 2, 3, 4, 5, 6, 7, 8, 9, 10, 11, 12, 13, 14, 15, 16, 17, 19, 20, 21, 22] st st92 := hG2
        clear hG2
        obtain rfl := hw
        exact W.zret (v := 0) hx hb hr rfl (fun t ht hW => ⟨⟨0, (st92, sl93), rfl, ⟨hG, hL, Or.inr (⟨rfl, by show st92 0 45 = _; rw [hGst92.2 0 45 (by decide), h45], (NKm.mg hGst92 (by decide) hNK)⟩)⟩, mB.of ht hP⟩, hS.F ht⟩) hS.2.2 dX12_readCompare_32
