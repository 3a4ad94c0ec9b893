set_option maxHeartbeats 4000000 in
set_option maxRecDepth 100000 in
theorem m_writeWord10 (l : Launch) (dC : Nat → ClassId) (dI : Nat → Nat → Nat) (ar : Nat → Nat) (cy : Nat → ClassId) (sz : Nat) (hN : MN ar) (st : Nat → Nat → Int32) (sl : Nat → Nat → Int64) (vw : Int64) (gt : Nat) (hI : MI st) (h37 : st 0 37 = nI gt) (h37b : gt + 11 ≤ 64) (hw9 : vw.toInt < 5559060566555523) : Met l yX12_writeWord wsX12_writeWord ({ frames := 11, cells := 0, slots := 0, locals := 241 }) (va_Pc [.ref (ar 0), .long vw] (mPre dC dI ar cy sz st sl)) (va_Qv (fun (x : MT) => MG [1, 2, 3, 4, 5, 6, 7, 8, 9, 10, 11, 12, 13, 14, 16, 17, 19, 20, 21, 22, 23] st x.1 ∧ LQ [7, 9] sl x.2 ∧ (∃ n : Nat, x.1 0 37 = nI n ∧ n ≤ gt + 11)) (mB dC dI ar cy) (MA ar sz)) 0 0 (MA ar sz) := by
  refine Met.ofW (cc := cX12_writeWord) (maxL := 3) (ret := none) (by decide) rfl ?_
  intro p e s m args below meth c s₁ B hml hv
  obtain ⟨rfl, hsz, hP, hK⟩ := hv
  have hx := B.exec
  have hb := B.bytes
  have hr := B.returns
  have hts := atoms_spec (ws := wsX12_writeWord) B.pre
  have hown : s.vm.findClass RX12 = some m.cls := findClass_of_methodNamed B.named
  subst hsz
  have hS : va_S (MA ar s.heap.size) s.heap s.heap [] := va_S.rf
  have hG : MG [1, 2, 3, 4, 5, 6, 7, 8, 9, 10, 11, 12, 13, 14, 16, 17, 19, 20, 21, 22, 23] st st := MG.rf hI
  have hl := lv_entry ([.ref (ar 0), .long vw]) (n := 3) (Nat.le_of_ble_eq_true rfl)
  rw [lg_entry_eq]
  generalize (lg_sl ([.ref (ar 0), .long vw]) ++ List.replicate (3 - (lg_sl ([.ref (ar 0), .long vw])).length) Slot.unset).toArray = ls at hl ⊢
  have hl : lv_has ls 3 [(0, .ref (ar 0)), (1, .long vw)] := hl
  clear hI
  have hL : LQ [7, 9] sl sl := LQ.rf
  refine lv_lload_n hx hb dX12_writeWord_0 rfl (lv_at hl 1 rfl) ?_
  refine lv_ldc2 (v := 27) hx hb hown (hts _ mm_X12_writeWord_1) dX12_writeWord_1 ?_
  refine W.lcmp hx hb dX12_writeWord_4 ?_
  refine lv_topi (fun z1 ez1 => ?_)
  refine lv_if_lt (tgt := 17) hx hb dX12_writeWord_5 (by decide) (fun c1 => ?_) (fun c1 => ?_)
  · refine lv_aload_n hx hb dX12_writeWord_17 rfl (lv_at hl 0 rfl) ?_
    refine lv_bipush (v := 96) hx hb dX12_writeWord_18 (by decide) ?_
    refine lv_lload_n hx hb dX12_writeWord_20 rfl (lv_at hl 1 rfl) ?_
    refine lv_ldc2 (v := 27) hx hb hown (hts _ mm_X12_writeWord_1) dX12_writeWord_21 ?_
    refine lv_lrem hx hb dX12_writeWord_24 (by decide) ?_
    refine lv_topl (fun z2 ez2 => ?_)
    clear ez2
    refine lv_l2i hx hb dX12_writeWord_25 rfl ?_
    refine lv_topi (fun z3 ez3 => ?_)
    clear ez3
    refine lv_iadd hx hb dX12_writeWord_26 ?_
    refine lv_topi (fun z4 ez4 => ?_)
    refine va_callv (va_runV (As := [.int z4]) (rest := []) ⟨hx, hb, hml, hown, hts⟩ (m_write l dC dI ar cy _ hN st sl z4 gt  hG.1 (by rw [h37]) (by omega)) (cwV 1 hts gX12_writeWord_X12_write rfl rfl rfl (by decide +kernel) ⟨Nat.le_of_ble_eq_true rfl, Nat.le_of_ble_eq_true rfl⟩) ⟨fun a U g mk q => ⟨q.1, mPre.blind q.2⟩, va_recv hK hP (ci := 11) (q0 := 0) rfl rfl, fun U hU hW => ⟨rfl, mPre.of hP hK hU hW⟩⟩ rfl rfl hl.1 rfl (lv_room (Nat.le_of_ble_eq_true rfl)) dX12_writeWord_27 ⟨Nat.le_of_ble_eq_true rfl, Nat.le_of_ble_eq_true rfl⟩) hS (fun q _ h => MA.le hS.1 q h) (MA.le hS.1) (fun x t H locs ht hvm hw hB _ _ hS => ?_)
    have hP := mB.at ht hB
    clear hB ht hvm
    obtain ⟨st6, sl7⟩ := x
    obtain ⟨hG2, hL2, hw⟩ := hw
    have hL : LQ [7, 9] sl sl7 := hL.tr hL2 (by decide)
    clear hL2
    dsimp only at hw
    have hP : va_P (dC, dI) vwCl (mw ar cy st6 sl7) _ := hP
    have hG : MG [1, 2, 3, 4, 5, 6, 7, 8, 9, 10, 11, 12, 13, 14, 16, 17, 19, 20, 21, 22, 23] st st6 := hG.tr hG2 (by decide)
    have hGst6 : MG [1, 2, 3, 4, 5, 6, 7, 8, 9, 10, 11, 12, 13, 14, 16, 17, 19, 20, 21, 22, 23] st st6 := hG2
    clear hG2
    have hf8 := hw
    exact W.vret hx hb hr (fun t ht hW => ⟨⟨(st6, sl7), rfl, ⟨hG, hL, ⟨(gt + 1), by show st6 0 37 = (nI (gt + 1)); rw [hf8], by omega⟩⟩, mB.of ht hP⟩, hS.F ht⟩) hS.2.2 dX12_writeWord_30
  · refine lv_aload_n hx hb dX12_writeWord_8 rfl (lv_at hl 0 rfl) ?_
    refine lv_lload_n hx hb dX12_writeWord_9 rfl (lv_at hl 1 rfl) ?_
    refine lv_ldc2 (v := 27) hx hb hown (hts _ mm_X12_writeWord_1) dX12_writeWord_10 ?_
    refine lv_ldiv hx hb dX12_writeWord_13 (by decide) ?_
    refine lv_topl (fun z9 ez9 => ?_)
    refine va_callv (va_runV (As := [.long z9]) (rest := []) ⟨hx, hb, hml, hown, hts⟩ (m_writeWord9 l dC dI ar cy _ hN st sl z9 gt  hG.1 (by rw [h37]) (by omega) (by rw [ez9]; exact Int64.lt_iff_toInt_lt.mp (zz_div27 (A := 205891132094649) (by have h5 := Int64.toInt_lt vw; show vw.toInt < 27 * 205891132094649; omega) (by decide)))) (cwV 1 hts gX12_writeWord_X12_writeWord rfl rfl rfl (by decide +kernel) ⟨Nat.le_of_ble_eq_true rfl, Nat.le_of_ble_eq_true rfl⟩) ⟨fun a U g mk q => ⟨q.1, mPre.blind q.2⟩, va_recv hK hP (ci := 11) (q0 := 0) rfl rfl, fun U hU hW => ⟨rfl, mPre.of hP hK hU hW⟩⟩ rfl rfl hl.1 rfl (lv_room (Nat.le_of_ble_eq_true rfl)) dX12_writeWord_14 ⟨Nat.le_of_ble_eq_true rfl, Nat.le_of_ble_eq_true rfl⟩) hS (fun q _ h => MA.le hS.1 q h) (MA.le hS.1) (fun x t H locs ht hvm hw hB _ _ hS => ?_)
    have hP := mB.at ht hB
    clear hB ht hvm
    obtain ⟨st11, sl12⟩ := x
    obtain ⟨hG2, hL2, hw⟩ := hw
    have hL : LQ [7, 9] sl sl12 := hL.tr hL2 (by decide)
    clear hL2
    dsimp only at hw
    have hP : va_P (dC, dI) vwCl (mw ar cy st11 sl12) _ := hP
    have hG : MG [1, 2, 3, 4, 5, 6, 7, 8, 9, 10, 11, 12, 13, 14, 16, 17, 19, 20, 21, 22, 23] st st11 := hG.tr hG2 (by decide)
    have hGst11 : MG [1, 2, 3, 4, 5, 6, 7, 8, 9, 10, 11, 12, 13, 14, 16, 17, 19, 20, 21, 22, 23] st st11 := hG2
    clear hG2
    obtain ⟨n13, hf14, hf15⟩ := hw
    refine lv_aload_n hx hb dX12_writeWord_17 rfl (lv_at hl 0 rfl) ?_
    refine lv_bipush (v := 96) hx hb dX12_writeWord_18 (by decide) ?_
    refine lv_lload_n hx hb dX12_writeWord_20 rfl (lv_at hl 1 rfl) ?_
    refine lv_ldc2 (v := 27) hx hb hown (hts _ mm_X12_writeWord_1) dX12_writeWord_21 ?_
    refine lv_lrem hx hb dX12_writeWord_24 (by decide) ?_
    refine lv_topl (fun z16 ez16 => ?_)
    clear ez16
    refine lv_l2i hx hb dX12_writeWord_25 rfl ?_
    refine lv_topi (fun z17 ez17 => ?_)
    clear ez17
    refine lv_iadd hx hb dX12_writeWord_26 ?_
    refine lv_topi (fun z18 ez18 => ?_)
    refine va_callv (va_runV (As := [.int z18]) (rest := []) ⟨hx, hb, hml, hown, hts⟩ (m_write l dC dI ar cy _ hN st11 sl12 z18 n13  hG.1 (by rw [hf14]) (by omega)) (cwV 1 hts gX12_writeWord_X12_write rfl rfl rfl (by decide +kernel) ⟨Nat.le_of_ble_eq_true rfl, Nat.le_of_ble_eq_true rfl⟩) ⟨fun a U g mk q => ⟨q.1, mPre.blind q.2⟩, va_recv hK hP (ci := 11) (q0 := 0) rfl rfl, fun U hU hW => ⟨rfl, mPre.of hP hK hU hW⟩⟩ rfl rfl hl.1 rfl (lv_room (Nat.le_of_ble_eq_true rfl)) dX12_writeWord_27 ⟨Nat.le_of_ble_eq_true rfl, Nat.le_of_ble_eq_true rfl⟩) hS (fun q _ h => MA.le hS.1 q h) (MA.le hS.1) (fun x t H locs ht hvm hw hB _ _ hS => ?_)
    have hP := mB.at ht hB
    clear hB ht hvm
    obtain ⟨st20, sl21⟩ := x
    obtain ⟨hG2, hL2, hw⟩ := hw
    have hL : LQ [7, 9] sl sl21 := hL.tr hL2 (by decide)
    clear hL2
    dsimp only at hw
    have hP : va_P (dC, dI) vwCl (mw ar cy st20 sl21) _ := hP
    have hG : MG [1, 2, 3, 4, 5, 6, 7, 8, 9, 10, 11, 12, 13, 14, 16, 17, 19, 20, 21, 22, 23] st st20 := hG.tr hG2 (by decide)
    have hGst20 : MG [1, 2, 3, 4, 5, 6, 7, 8, 9, 10, 11, 12, 13, 14, 16, 17, 19, 20, 21, 22, 23] st11 st20 := hG2
    clear hG2
    have hf22 := hw
    exact W.vret hx hb hr (fun t ht hW => ⟨⟨(st20, sl21), rfl, ⟨hG, hL, ⟨(n13 + 1), by show st20 0 37 = (nI (n13 + 1)); rw [hf22], by omega⟩⟩, mB.of ht hP⟩, hS.F ht⟩) hS.2.2 dX12_writeWord_30
set_option maxHeartbeats 4000000 in
set_option maxRecDepth 100000 in
theorem m_writeWord11 (l : Launch) (dC : Nat → ClassId) (dI : Nat → Nat → Nat) (ar : Nat → Nat) (cy : Nat → ClassId) (sz : Nat) (hN : MN ar) (st : Nat → Nat → Int32) (sl : Nat → Nat → Int64) (vw : Int64) (gt : Nat) (hI : MI st) (h37 : st 0 37 = nI gt) (h37b : gt + 12 ≤ 64) (hw9 : vw.toInt < 150094635296999121) : Met l yX12_writeWord wsX12_writeWord ({ frames := 12, cells := 0, slots := 0, locals := 263 }) (va_Pc [.ref (ar 0), .long vw] (mPre dC dI ar cy sz st sl)) (va_Qv (fun (x : MT) => MG [1, 2, 3, 4, 5, 6, 7, 8, 9, 10, 11, 12, 13, 14, 16, 17, 19, 20, 21, 22, 23] st x.1 ∧ LQ [7, 9] sl x.2 ∧ (∃ n : Nat, x.1 0 37 = nI n ∧ n ≤ gt + 12)) (mB dC dI ar cy) (MA ar sz)) 0 0 (MA ar sz) := by
  refine Met.ofW (cc := cX12_writeWord) (maxL := 3) (ret := none) (by decide) rfl ?_
  intro p e s m args below meth c s₁ B hml hv
  obtain ⟨rfl, hsz, hP, hK⟩ := hv
  have hx := B.exec
  have hb := B.bytes
  have hr := B.returns
  have hts := atoms_spec (ws := wsX12_writeWord) B.pre
  have hown : s.vm.findClass RX12 = some m.cls := findClass_of_methodNamed B.named
  subst hsz
  have hS : va_S (MA ar s.heap.size) s.heap s.heap [] := va_S.rf
  have hG : MG [1, 2, 3, 4, 5, 6, 7, 8, 9, 10, 11, 12, 13, 14, 16, 17, 19, 20, 21, 22, 23] st st := MG.rf hI
  have hl := lv_entry ([.ref (ar 0), .long vw]) (n := 3) (Nat.le_of_ble_eq_true rfl)
  rw [lg_entry_eq]
  generalize (lg_sl ([.ref (ar 0), .long vw]) ++ List.replicate (3 - (lg_sl ([.ref (ar 0), .long vw])).length) Slot.unset).toArray = ls at hl ⊢
  have hl : lv_has ls 3 [(0, .ref (ar 0)), (1, .long vw)] := hl
  clear hI
  have hL : LQ [7, 9] sl sl := LQ.rf
  refine lv_lload_n hx hb dX12_writeWord_0 rfl (lv_at hl 1 rfl) ?_
  refine lv_ldc2 (v := 27) hx hb hown (hts _ mm_X12_writeWord_1) dX12_writeWord_1 ?_
  refine W.lcmp hx hb dX12_writeWord_4 ?_
  refine lv_topi (fun z1 ez1 => ?_)
  refine lv_if_lt (tgt := 17) hx hb dX12_writeWord_5 (by decide) (fun c1 => ?_) (fun c1 => ?_)
  · refine lv_aload_n hx hb dX12_writeWord_17 rfl (lv_at hl 0 rfl) ?_
    refine lv_bipush (v := 96) hx hb dX12_writeWord_18 (by decide) ?_
    refine lv_lload_n hx hb dX12_writeWord_20 rfl (lv_at hl 1 rfl) ?_
    refine lv_ldc2 (v := 27) hx hb hown (hts _ mm_X12_writeWord_1) dX12_writeWord_21 ?_
    refine lv_lrem hx hb dX12_writeWord_24 (by decide) ?_
    refine lv_topl (fun z2 ez2 => ?_)
    clear ez2
    refine lv_l2i hx hb dX12_writeWord_25 rfl ?_
    refine lv_topi (fun z3 ez3 => ?_)
    clear ez3
    refine lv_iadd hx hb dX12_writeWord_26 ?_
    refine lv_topi (fun z4 ez4 => ?_)
    refine va_callv (va_runV (As := [.int z4]) (rest := []) ⟨hx, hb, hml, hown, hts⟩ (m_write l dC dI ar cy _ hN st sl z4 gt  hG.1 (by rw [h37]) (by omega)) (cwV 1 hts gX12_writeWord_X12_write rfl rfl rfl (by decide +kernel) ⟨Nat.le_of_ble_eq_true rfl, Nat.le_of_ble_eq_true rfl⟩) ⟨fun a U g mk q => ⟨q.1, mPre.blind q.2⟩, va_recv hK hP (ci := 11) (q0 := 0) rfl rfl, fun U hU hW => ⟨rfl, mPre.of hP hK hU hW⟩⟩ rfl rfl hl.1 rfl (lv_room (Nat.le_of_ble_eq_true rfl)) dX12_writeWord_27 ⟨Nat.le_of_ble_eq_true rfl, Nat.le_of_ble_eq_true rfl⟩) hS (fun q _ h => MA.le hS.1 q h) (MA.le hS.1) (fun x t H locs ht hvm hw hB _ _ hS => ?_)
    have hP := mB.at ht hB
    clear hB ht hvm
    obtain ⟨st6, sl7⟩ := x
    obtain ⟨hG2, hL2, hw⟩ := hw
    have hL : LQ [7, 9] sl sl7 := hL.tr hL2 (by decide)
    clear hL2
    dsimp only at hw
    have hP : va_P (dC, dI) vwCl (mw ar cy st6 sl7) _ := hP
    have hG : MG [1, 2, 3, 4, 5, 6, 7, 8, 9, 10, 11, 12, 13, 14, 16, 17, 19, 20, 21, 22, 23] st st6 := hG.tr hG2 (by decide)
    have hGst6 : MG [1, 2, 3, 4, 5, 6, 7, 8, 9, 10, 11, 12, 13, 14, 16, 17, 19, 20, 21, 22, 23] st st6 := hG2
    clear hG2
    have hf8 := hw
    exact W.vret hx hb hr (fun t ht hW => ⟨⟨(st6, sl7), rfl, ⟨hG, hL, ⟨(gt + 1), by show st6 0 37 = (nI (gt + 1)); rw [hf8], by omega⟩⟩, mB.of ht hP⟩, hS.F ht⟩) hS.2.2 dX12_writeWord_30
  · refine lv_aload_n hx hb dX12_writeWord_8 rfl (lv_at hl 0 rfl) ?_
    refine lv_lload_n hx hb dX12_writeWord_9 rfl (lv_at hl 1 rfl) ?_
    refine lv_ldc2 (v := 27) hx hb hown (hts _ mm_X12_writeWord_1) dX12_writeWord_10 ?_
    refine lv_ldiv hx hb dX12_writeWord_13 (by decide) ?_
    refine lv_topl (fun z9 ez9 => ?_)
    refine va_callv (va_runV (As := [.long z9]) (rest := []) ⟨hx, hb, hml, hown, hts⟩ (m_writeWord10 l dC dI ar cy _ hN st sl z9 gt  hG.1 (by rw [h37]) (by omega) (by rw [ez9]; exact Int64.lt_iff_toInt_lt.mp (zz_div27 (A := 5559060566555523) (by have h5 := Int64.toInt_lt vw; show vw.toInt < 27 * 5559060566555523; omega) (by decide)))) (cwV 1 hts gX12_writeWord_X12_writeWord rfl rfl rfl (by decide +kernel) ⟨Nat.le_of_ble_eq_true rfl, Nat.le_of_ble_eq_true rfl⟩) ⟨fun a U g mk q => ⟨q.1, mPre.blind q.2⟩, va_recv hK hP (ci := 11) (q0 := 0) rfl rfl, fun U hU hW => ⟨rfl, mPre.of hP hK hU hW⟩⟩ rfl rfl hl.1 rfl (lv_room (Nat.le_of_ble_eq_true rfl)) dX12_writeWord_14 ⟨Nat.le_of_ble_eq_true rfl, Nat.le_of_ble_eq_true rfl⟩) hS (fun q _ h => MA.le hS.1 q h) (MA.le hS.1) (fun x t H locs ht hvm hw hB _ _ hS => ?_)
    have hP := mB.at ht hB
    clear hB ht hvm
    obtain ⟨st11, sl12⟩ := x
    obtain ⟨hG2, hL2, hw⟩ := hw
    have hL : LQ [7, 9] sl sl12 := hL.tr hL2 (by decide)
    clear hL2
    dsimp only at hw
    have hP : va_P (dC, dI) vwCl (mw ar cy st11 sl12) _ := hP
    have hG : MG [1, 2, 3, 4, 5, 6, 7, 8, 9, 10, 11, 12, 13, 14, 16, 17, 19, 20, 21, 22, 23] st st11 := hG.tr hG2 (by decide)
    have hGst11 : MG [1, 2, 3, 4, 5, 6, 7, 8, 9, 10, 11, 12, 13, 14, 16, 17, 19, 20, 21, 22, 23] st st11 := hG2
    clear hG2
    obtain ⟨n13, hf14, hf15⟩ := hw
    refine lv_aload_n hx hb dX12_writeWord_17 rfl (lv_at hl 0 rfl) ?_
    refine lv_bipush (v := 96) hx hb dX12_writeWord_18 (by decide) ?_
    refine lv_lload_n hx hb dX12_writeWord_20 rfl (lv_at hl 1 rfl) ?_
    refine lv_ldc2 (v := 27) hx hb hown (hts _ mm_X12_writeWord_1) dX12_writeWord_21 ?_
    refine lv_lrem hx hb dX12_writeWord_24 (by decide) ?_
    refine lv_topl (fun z16 ez16 => ?_)
    clear ez16
    refine lv_l2i hx hb dX12_writeWord_25 rfl ?_
    refine lv_topi (fun z17 ez17 => ?_)
    clear ez17
    refine lv_iadd hx hb dX12_writeWord_26 ?_
    refine lv_topi (fun z18 ez18 => ?_)
    refine va_callv (va_runV (As := [.int z18]) (rest := []) ⟨hx, hb, hml, hown, hts⟩ (m_write l dC dI ar cy _ hN st11 sl12 z18 n13  hG.1 (by rw [hf14]) (by omega)) (cwV 1 hts gX12_writeWord_X12_write rfl rfl rfl (by decide +kernel) ⟨Nat.le_of_ble_eq_true rfl, Nat.le_of_ble_eq_true rfl⟩) ⟨fun a U g mk q => ⟨q.1, mPre.blind q.2⟩, va_recv hK hP (ci := 11) (q0 := 0) rfl rfl, fun U hU hW => ⟨rfl, mPre.of hP hK hU hW⟩⟩ rfl rfl hl.1 rfl (lv_room (Nat.le_of_ble_eq_true rfl)) dX12_writeWord_27 ⟨Nat.le_of_ble_eq_true rfl, Nat.le_of_ble_eq_true rfl⟩) hS (fun q _ h => MA.le hS.1 q h) (MA.le hS.1) (fun x t H locs ht hvm hw hB _ _ hS => ?_)
    have hP := mB.at ht hB
    clear hB ht hvm
    obtain ⟨st20, sl21⟩ := x
    obtain ⟨hG2, hL2, hw⟩ := hw
    have hL : LQ [7, 9] sl sl21 := hL.tr hL2 (by decide)
    clear hL2
    dsimp only at hw
    have hP : va_P (dC, dI) vwCl (mw ar cy st20 sl21) _ := hP
    have hG : MG [1, 2, 3, 4, 5, 6, 7, 8, 9, 10, 11, 12, 13, 14, 16, 17, 19, 20, 21, 22, 23] st st20 := hG.tr hG2 (by decide)
    have hGst20 : MG [1, 2, 3, 4, 5, 6, 7, 8, 9, 10, 11, 12, 13, 14, 16, 17, 19, 20, 21, 22, 23] st11 st20 := hG2
    clear hG2
    have hf22 := hw
    exact W.vret hx hb hr (fun t ht hW => ⟨⟨(st20, sl21), rfl, ⟨hG, hL, ⟨(n13 + 1), by show st20 0 37 = (nI (n13 + 1)); rw [hf22], by omega⟩⟩, mB.of ht hP⟩, hS.F ht⟩) hS.2.2 dX12_writeWord_30
set_option maxHeartbeats 4000000 in
set_option maxRecDepth 100000 in
theorem m_writeWord12 (l : Launch) (dC : Nat → ClassId) (dI : Nat → Nat → Nat) (ar : Nat → Nat) (cy : Nat → ClassId) (sz : Nat) (hN : MN ar) (st : Nat → Nat → Int32) (sl : Nat → Nat → Int64) (vw : Int64) (gt : Nat) (hI : MI st) (h37 : st 0 37 = nI gt) (h37b : gt + 13 ≤ 64) (hw9 : vw.toInt < 4052555153018976267) : Met l yX12_writeWord wsX12_writeWord ({ frames := 13, cells := 0, slots := 0, locals := 285 }) (va_Pc [.ref (ar 0), .long vw] (mPre dC dI ar cy sz st sl)) (va_Qv (fun (x : MT) => MG [1, 2, 3, 4, 5, 6, 7, 8, 9, 10, 11, 12, 13, 14, 16, 17, 19, 20, 21, 22, 23] st x.1 ∧ LQ [7, 9] sl x.2 ∧ (∃ n : Nat, x.1 0 37 = nI n ∧ n ≤ gt + 13)) (mB dC dI ar cy) (MA ar sz)) 0 0 (MA ar sz) := by
  refine Met.ofW (cc := cX12_writeWord) (maxL := 3) (ret := none) (by decide) rfl ?_
  intro p e s m args below meth c s₁ B hml hv
  obtain ⟨rfl, hsz, hP, hK⟩ := hv
  have hx := B.exec
  have hb := B.bytes
  have hr := B.returns
  have hts := atoms_spec (ws := wsX12_writeWord) B.pre
  have hown : s.vm.findClass RX12 = some m.cls := findClass_of_methodNamed B.named
  subst hsz
  have hS : va_S (MA ar s.heap.size) s.heap s.heap [] := va_S.rf
  have hG : MG [1, 2, 3, 4, 5, 6, 7, 8, 9, 10, 11, 12, 13, 14, 16, 17, 19, 20, 21, 22, 23] st st := MG.rf hI
  have hl := lv_entry ([.ref (ar 0), .long vw]) (n := 3) (Nat.le_of_ble_eq_true rfl)
  rw [lg_entry_eq]
  generalize (lg_sl ([.ref (ar 0), .long vw]) ++ List.replicate (3 - (lg_sl ([.ref (ar 0), .long vw])).length) Slot.unset).toArray = ls at hl ⊢
  have hl : lv_has ls 3 [(0, .ref (ar 0)), (1, .long vw)] := hl
  clear hI
  have hL : LQ [7, 9] sl sl := LQ.rf
  refine lv_lload_n hx hb dX12_writeWord_0 rfl (lv_at hl 1 rfl) ?_
  refine lv_ldc2 (v := 27) hx hb hown (hts _ mm_X12_writeWord_1) dX12_writeWord_1 ?_
  refine W.lcmp hx hb dX12_writeWord_4 ?_
  refine lv_topi (fun z1 ez1 => ?_)
  refine lv_if_lt (tgt := 17) hx hb dX12_writeWord_5 (by decide) (fun c1 => ?_) (fun c1 => ?_)
  · refine lv_aload_n hx hb dX12_writeWord_17 rfl (lv_at hl 0 rfl) ?_
    refine lv_bipush (v := 96) hx hb dX12_writeWord_18 (by decide) ?_
    refine lv_lload_n hx hb dX12_writeWord_20 rfl (lv_at hl 1 rfl) ?_
    refine lv_ldc2 (v := 27) hx hb hown (hts _ mm_X12_writeWord_1) dX12_writeWord_21 ?_
    refine lv_lrem hx hb dX12_writeWord_24 (by decide) ?_
    refine lv_topl (fun z2 ez2 => ?_)
    clear ez2
    refine lv_l2i hx hb dX12_writeWord_25 rfl ?_
    refine lv_topi (fun z3 ez3 => ?_)
    clear ez3
    refine lv_iadd hx hb dX12_writeWord_26 ?_
    refine lv_topi (fun z4 ez4 => ?_)
    refine va_callv (va_runV (As := [.int z4]) (rest := []) ⟨hx, hb, hml, hown, hts⟩ (m_write l dC dI ar cy _ hN st sl z4 gt  hG.1 (by rw [h37]) (by omega)) (cwV 1 hts gX12_writeWord_X12_write rfl rfl rfl (by decide +kernel) ⟨Nat.le_of_ble_eq_true rfl, Nat.le_of_ble_eq_true rfl⟩) ⟨fun a U g mk q => ⟨q.1, mPre.blind q.2⟩, va_recv hK hP (ci := 11) (q0 := 0) rfl rfl, fun U hU hW => ⟨rfl, mPre.of hP hK hU hW⟩⟩ rfl rfl hl.1 rfl (lv_room (Nat.le_of_ble_eq_true rfl)) dX12_writeWord_27 ⟨Nat.le_of_ble_eq_true rfl, Nat.le_of_ble_eq_true rfl⟩) hS (fun q _ h => MA.le hS.1 q h) (MA.le hS.1) (fun x t H locs ht hvm hw hB _ _ hS => ?_)
    have hP := mB.at ht hB
    clear hB ht hvm
    obtain ⟨st6, sl7⟩ := x
    obtain ⟨hG2, hL2, hw⟩ := hw
    have hL : LQ [7, 9] sl sl7 := hL.tr hL2 (by decide)
    clear hL2
    dsimp only at hw
    have hP : va_P (dC, dI) vwCl (mw ar cy st6 sl7) _ := hP
    have hG : MG [1, 2, 3, 4, 5, 6, 7, 8, 9, 10, 11, 12, 13, 14, 16, 17, 19, 20, 21, 22, 23] st st6 := hG.tr hG2 (by decide)
    have hGst6 : MG [1, 2, 3, 4, 5, 6, 7, 8, 9, 10, 11, 12, 13, 14, 16, 17, 19, 20, 21, 22, 23] st st6 := hG2
    clear hG2
    have hf8 := hw
    exact W.vret hx hb hr (fun t ht hW => ⟨⟨(st6, sl7), rfl, ⟨hG, hL, ⟨(gt + 1), by show st6 0 37 = (nI (gt + 1)); rw [hf8], by omega⟩⟩, mB.of ht hP⟩, hS.F ht⟩) hS.2.2 dX12_writeWord_30
  · refine lv_aload_n hx hb dX12_writeWord_8 rfl (lv_at hl 0 rfl) ?_
    refine lv_lload_n hx hb dX12_writeWord_9 rfl (lv_at hl 1 rfl) ?_
    refine lv_ldc2 (v := 27) hx hb hown (hts _ mm_X12_writeWord_1) dX12_writeWord_10 ?_
    refine lv_ldiv hx hb dX12_writeWord_13 (by decide) ?_
    refine lv_topl (fun z9 ez9 => ?_)
    refine va_callv (va_runV (As := [.long z9]) (rest := []) ⟨hx, hb, hml, hown, hts⟩ (m_writeWord11 l dC dI ar cy _ hN st sl z9 gt  hG.1 (by rw [h37]) (by omega) (by rw [ez9]; exact Int64.lt_iff_toInt_lt.mp (zz_div27 (A := 150094635296999121) (by have h5 := Int64.toInt_lt vw; show vw.toInt < 27 * 150094635296999121; omega) (by decide)))) (cwV 1 hts gX12_writeWord_X12_writeWord rfl rfl rfl (by decide +kernel) ⟨Nat.le_of_ble_eq_true rfl, Nat.le_of_ble_eq_true rfl⟩) ⟨fun a U g mk q => ⟨q.1, mPre.blind q.2⟩, va_recv hK hP (ci := 11) (q0 := 0) rfl rfl, fun U hU hW => ⟨rfl, mPre.of hP hK hU hW⟩⟩ rfl rfl hl.1 rfl (lv_room (Nat.le_of_ble_eq_true rfl)) dX12_writeWord_14 ⟨Nat.le_of_ble_eq_true rfl, Nat.le_of_ble_eq_true rfl⟩) hS (fun q _ h => MA.le hS.1 q h) (MA.le hS.1) (fun x t H locs ht hvm hw hB _ _ hS => ?_)
    have hP := mB.at ht hB
    clear hB ht hvm
    obtain ⟨st11, sl12⟩ := x
    obtain ⟨hG2, hL2, hw⟩ := hw
    have hL : LQ [7, 9] sl sl12 := hL.tr hL2 (by decide)
    clear hL2
    dsimp only at hw
    have hP : va_P (dC, dI) vwCl (mw ar cy st11 sl12) _ := hP
    have hG : MG [1, 2, 3, 4, 5, 6, 7, 8, 9, 10, 11, 12, 13, 14, 16, 17, 19, 20, 21, 22, 23] st st11 := hG.tr hG2 (by decide)
    have hGst11 : MG [1, 2, 3, 4, 5, 6, 7, 8, 9, 10, 11, 12, 13, 14, 16, 17, 19, 20, 21, 22, 23] st st11 := hG2
    clear hG2
    obtain ⟨n13, hf14, hf15⟩ := hw
    refine lv_aload_n hx hb dX12_writeWord_17 rfl (lv_at hl 0 rfl) ?_
    refine lv_bipush (v := 96) hx hb dX12_writeWord_18 (by decide) ?_
    refine lv_lload_n hx hb dX12_writeWord_20 rfl (lv_at hl 1 rfl) ?_
    refine lv_ldc2 (v := 27) hx hb hown (hts _ mm_X12_writeWord_1) dX12_writeWord_21 ?_
    refine lv_lrem hx hb dX12_writeWord_24 (by decide) ?_
    refine lv_topl (fun z16 ez16 => ?_)
    clear ez16
    refine lv_l2i hx hb dX12_writeWord_25 rfl ?_
    refine lv_topi (fun z17 ez17 => ?_)
    clear ez17
    refine lv_iadd hx hb dX12_writeWord_26 ?_
    refine lv_topi (fun z18 ez18 => ?_)
    refine va_callv (va_runV (As := [.int z18]) (rest := []) ⟨hx, hb, hml, hown, hts⟩ (m_write l dC dI ar cy _ hN st11 sl12 z18 n13  hG.1 (by rw [hf14]) (by omega)) (cwV 1 hts gX12_writeWord_X12_write rfl rfl rfl (by decide +kernel) ⟨Nat.le_of_ble_eq_true rfl, Nat.le_of_ble_eq_true rfl⟩) ⟨fun a U g mk q => ⟨q.1, mPre.blind q.2⟩, va_recv hK hP (ci := 11) (q0 := 0) rfl rfl, fun U hU hW => ⟨rfl, mPre.of hP hK hU hW⟩⟩ rfl rfl hl.1 rfl (lv_room (Nat.le_of_ble_eq_true rfl)) dX12_writeWord_27 ⟨Nat.le_of_ble_eq_true rfl, Nat.le_of_ble_eq_true rfl⟩) hS (fun q _ h => MA.le hS.1 q h) (MA.le hS.1) (fun x t H locs ht hvm hw hB _ _ hS => ?_)
    have hP := mB.at ht hB
    clear hB ht hvm
    obtain ⟨st20, sl21⟩ := x
    obtain ⟨hG2, hL2, hw⟩ := hw
    have hL : LQ [7, 9] sl sl21 := hL.tr hL2 (by decide)
    clear hL2
    dsimp only at hw
    have hP : va_P (dC, dI) vwCl (mw ar cy st20 sl21) _ := hP
    have hG : MG [1, 2, 3, 4, 5, 6, 7, 8, 9, 10, 11, 12, 13, 14, 16, 17, 19, 20, 21, 22, 23] st st20 := hG.tr hG2 (by decide)
    have hGst20 : MG [1, 2, 3, 4, 5, 6, 7, 8, 9, 10, 11, 12, 13, 14, 16, 17, 19, 20, 21, 22, 23] st11 st20 := hG2
    clear hG2
    have hf22 := hw
    exact W.vret hx hb hr (fun t ht hW => ⟨⟨(st20, sl21), rfl, ⟨hG, hL, ⟨(n13 + 1), by show st20 0 37 = (nI (n13 + 1)); rw [hf22], by omega⟩⟩, mB.of ht hP⟩, hS.F ht⟩) hS.2.2 dX12_writeWord_30
set_option maxHeartbeats 4000000 in
set_option maxRecDepth 100000 in
theorem m_writeWord13 (l : Launch) (dC : Nat → ClassId) (dI : Nat → Nat → Nat) (ar : Nat → Nat) (cy : Nat → ClassId) (sz : Nat) (hN : MN ar) (st : Nat → Nat → Int32) (sl : Nat → Nat → Int64) (vw : Int64) (gt : Nat) (hI : MI st) (h37 : st 0 37 = nI gt) (h37b : gt + 14 ≤ 64) : Met l yX12_writeWord wsX12_writeWord ({ frames := 14, cells := 0, slots := 0, locals := 307 }) (va_Pc [.ref (ar 0), .long vw] (mPre dC dI ar cy sz st sl)) (va_Qv (fun (x : MT) => MG [1, 2, 3, 4, 5, 6, 7, 8, 9, 10, 11, 12, 13, 14, 16, 17, 19, 20, 21, 22, 23] st x.1 ∧ LQ [7, 9] sl x.2 ∧ (∃ n : Nat, x.1 0 37 = nI n ∧ n ≤ gt + 14)) (mB dC dI ar cy) (MA ar sz)) 0 0 (MA ar sz) := by
  refine Met.ofW (cc := cX12_writeWord) (maxL := 3) (ret := none) (by decide) rfl ?_
  intro p e s m args below meth c s₁ B hml hv
  obtain ⟨rfl, hsz, hP, hK⟩ := hv
  have hx := B.exec
  have hb := B.bytes
  have hr := B.returns
  have hts := atoms_spec (ws := wsX12_writeWord) B.pre
  have hown : s.vm.findClass RX12 = some m.cls := findClass_of_methodNamed B.named
  subst hsz
  have hS : va_S (MA ar s.heap.size) s.heap s.heap [] := va_S.rf
  have hG : MG [1, 2, 3, 4, 5, 6, 7, 8, 9, 10, 11, 12, 13, 14, 16, 17, 19, 20, 21, 22, 23] st st := MG.rf hI
  have hl := lv_entry ([.ref (ar 0), .long vw]) (n := 3) (Nat.le_of_ble_eq_true rfl)
  rw [lg_entry_eq]
  generalize (lg_sl ([.ref (ar 0), .long vw]) ++ List.replicate (3 - (lg_sl ([.ref (ar 0), .long vw])).length) Slot.unset).toArray = ls at hl ⊢
  have hl : lv_has ls 3 [(0, .ref (ar 0)), (1, .long vw)] := hl
  clear hI
  have hL : LQ [7, 9] sl sl := LQ.rf
  refine lv_lload_n hx hb dX12_writeWord_0 rfl (lv_at hl 1 rfl) ?_
  refine lv_ldc2 (v := 27) hx hb hown (hts _ mm_X12_writeWord_1) dX12_writeWord_1 ?_
  refine W.lcmp hx hb dX12_writeWord_4 ?_
  refine lv_topi (fun z1 ez1 => ?_)
  refine lv_if_lt (tgt := 17) hx hb dX12_writeWord_5 (by decide) (fun c1 => ?_) (fun c1 => ?_)
  · refine lv_aload_n hx hb dX12_writeWord_17 rfl (lv_at hl 0 rfl) ?_
    refine lv_bipush (v := 96) hx hb dX12_writeWord_18 (by decide) ?_
    refine lv_lload_n hx hb dX12_writeWord_20 rfl (lv_at hl 1 rfl) ?_
    refine lv_ldc2 (v := 27) hx hb hown (hts _ mm_X12_writeWord_1) dX12_writeWord_21 ?_
    refine lv_lrem hx hb dX12_writeWord_24 (by decide) ?_
    refine lv_topl (fun z2 ez2 => ?_)
    clear ez2
    refine lv_l2i hx hb dX12_writeWord_25 rfl ?_
    refine lv_topi (fun z3 ez3 => ?_)
    clear ez3
    refine lv_iadd hx hb dX12_writeWord_26 ?_
    refine lv_topi (fun z4 ez4 => ?_)
    refine va_callv (va_runV (As := [.int z4]) (rest := []) ⟨hx, hb, hml, hown, hts⟩ (m_write l dC dI ar cy _ hN st sl z4 gt  hG.1 (by rw [h37]) (by omega)) (cwV 1 hts gX12_writeWord_X12_write rfl rfl rfl (by decide +kernel) ⟨Nat.le_of_ble_eq_true rfl, Nat.le_of_ble_eq_true rfl⟩) ⟨fun a U g mk q => ⟨q.1, mPre.blind q.2⟩, va_recv hK hP (ci := 11) (q0 := 0) rfl rfl, fun U hU hW => ⟨rfl, mPre.of hP hK hU hW⟩⟩ rfl rfl hl.1 rfl (lv_room (Nat.le_of_ble_eq_true rfl)) dX12_writeWord_27 ⟨Nat.le_of_ble_eq_true rfl, Nat.le_of_ble_eq_true rfl⟩) hS (fun q _ h => MA.le hS.1 q h) (MA.le hS.1) (fun x t H locs ht hvm hw hB _ _ hS => ?_)
    have hP := mB.at ht hB
    clear hB ht hvm
    obtain ⟨st6, sl7⟩ := x
    obtain ⟨hG2, hL2, hw⟩ := hw
    have hL : LQ [7, 9] sl sl7 := hL.tr hL2 (by decide)
    clear hL2
    dsimp only at hw
    have hP : va_P (dC, dI) vwCl (mw ar cy st6 sl7) _ := hP
    have hG : MG [1, 2, 3, 4, 5, 6, 7, 8, 9, 10, 11, 12, 13, 14, 16, 17, 19, 20, 21, 22, 23] st st6 := hG.tr hG2 (by decide)
    have hGst6 : MG [1, 2, 3, 4, 5, 6, 7, 8, 9, 10, 11, 12, 13, 14, 16, 17, 19, 20, 21, 22, 23] st st6 := hG2
    clear hG2
    have hf8 := hw
    exact W.vret hx hb hr (fun t ht hW => ⟨⟨(st6, sl7), rfl, ⟨hG, hL, ⟨(gt + 1), by show st6 0 37 = (nI (gt + 1)); rw [hf8], by omega⟩⟩, mB.of ht hP⟩, hS.F ht⟩) hS.2.2 dX12_writeWord_30
  · refine lv_aload_n hx hb dX12_writeWord_8 rfl (lv_at hl 0 rfl) ?_
    refine lv_lload_n hx hb dX12_writeWord_9 rfl (lv_at hl 1 rfl) ?_
    refine lv_ldc2 (v := 27) hx hb hown (hts _ mm_X12_writeWord_1) dX12_writeWord_10 ?_
    refine lv_ldiv hx hb dX12_writeWord_13 (by decide) ?_
    refine lv_topl (fun z9 ez9 => ?_)
    refine va_callv (va_runV (As := [.long z9]) (rest := []) ⟨hx, hb, hml, hown, hts⟩ (m_writeWord12 l dC dI ar cy _ hN st sl z9 gt  hG.1 (by rw [h37]) (by omega) (by rw [ez9]; exact Int64.lt_iff_toInt_lt.mp (zz_div27 (A := 4052555153018976267) (by have h5 := Int64.toInt_lt vw; show vw.toInt < 27 * 4052555153018976267; omega) (by decide)))) (cwV 1 hts gX12_writeWord_X12_writeWord rfl rfl rfl (by decide +kernel) ⟨Nat.le_of_ble_eq_true rfl, Nat.le_of_ble_eq_true rfl⟩) ⟨fun a U g mk q => ⟨q.1, mPre.blind q.2⟩, va_recv hK hP (ci := 11) (q0 := 0) rfl rfl, fun U hU hW => ⟨rfl, mPre.of hP hK hU hW⟩⟩ rfl rfl hl.1 rfl (lv_room (Nat.le_of_ble_eq_true rfl)) dX12_writeWord_14 ⟨Nat.le_of_ble_eq_true rfl, Nat.le_of_ble_eq_true rfl⟩) hS (fun q _ h => MA.le hS.1 q h) (MA.le hS.1) (fun x t H locs ht hvm hw hB _ _ hS => ?_)
    have hP := mB.at ht hB
    clear hB ht hvm
    obtain ⟨st11, sl12⟩ := x
    obtain ⟨hG2, hL2, hw⟩ := hw
    have hL : LQ [7, 9] sl sl12 := hL.tr hL2 (by decide)
    clear hL2
    dsimp only at hw
    have hP : va_P (dC, dI) vwCl (mw ar cy st11 sl12) _ := hP
    have hG : MG [1, 2, 3, 4, 5, 6, 7, 8, 9, 10, 11, 12, 13, 14, 16, 17, 19, 20, 21, 22, 23] st st11 := hG.tr hG2 (by decide)
    have hGst11 : MG [1, 2, 3, 4, 5, 6, 7, 8, 9, 10, 11, 12, 13, 14, 16, 17, 19, 20, 21, 22, 23] st st11 := hG2
    clear hG2
    obtain ⟨n13, hf14, hf15⟩ := hw
    refine lv_aload_n hx hb dX12_writeWord_17 rfl (lv_at hl 0 rfl) ?_
    refine lv_bipush (v := 96) hx hb dX12_writeWord_18 (by decide) ?_
    refine lv_lload_n hx hb dX12_writeWord_20 rfl (lv_at hl 1 rfl) ?_
    refine lv_ldc2 (v := 27) hx hb hown (hts _ mm_X12_writeWord_1) dX12_writeWord_21 ?_
    refine lv_lrem hx hb dX12_writeWord_24 (by decide) ?_
    refine lv_topl (fun z16 ez16 => ?_)
    clear ez16
    refine lv_l2i hx hb dX12_writeWord_25 rfl ?_
    refine lv_topi (fun z17 ez17 => ?_)
    clear ez17
    refine lv_iadd hx hb dX12_writeWord_26 ?_
    refine lv_topi (fun z18 ez18 => ?_)
    refine va_callv (va_runV (As := [.int z18]) (rest := []) ⟨hx, hb, hml, hown, hts⟩ (m_write l dC dI ar cy _ hN st11 sl12 z18 n13  hG.1 (by rw [hf14]) (by omega)) (cwV 1 hts gX12_writeWord_X12_write rfl rfl rfl (by decide +kernel) ⟨Nat.le_of_ble_eq_true rfl, Nat.le_of_ble_eq_true rfl⟩) ⟨fun a U g mk q => ⟨q.1, mPre.blind q.2⟩, va_recv hK hP (ci := 11) (q0 := 0) rfl rfl, fun U hU hW => ⟨rfl, mPre.of hP hK hU hW⟩⟩ rfl rfl hl.1 rfl (lv_room (Nat.le_of_ble_eq_true rfl)) dX12_writeWord_27 ⟨Nat.le_of_ble_eq_true rfl, Nat.le_of_ble_eq_true rfl⟩) hS (fun q _ h => MA.le hS.1 q h) (MA.le hS.1) (fun x t H locs ht hvm hw hB _ _ hS => ?_)
    have hP := mB.at ht hB
    clear hB ht hvm
    obtain ⟨st20, sl21⟩ := x
    obtain ⟨hG2, hL2, hw⟩ := hw
    have hL : LQ [7, 9] sl sl21 := hL.tr hL2 (by decide)
    clear hL2
    dsimp only at hw
    have hP : va_P (dC, dI) vwCl (mw ar cy st20 sl21) _ := hP
    have hG : MG [1, 2, 3, 4, 5, 6, 7, 8, 9, 10, 11, 12, 13, 14, 16, 17, 19, 20, 21, 22, 23] st st20 := hG.tr hG2 (by decide)
    have hGst20 : MG [1, 2, 3, 4, 5, 6, 7, 8, 9, 10, 11, 12, 13, 14, 16, 17, 19, 20, 21, 22, 23] st11 st20 := hG2
    clear hG2
    have hf22 := hw
    exact W.vret hx hb hr (fun t ht hW => ⟨⟨(st20, sl21), rfl, ⟨hG, hL, ⟨(n13 + 1), by show st20 0 37 = (nI (n13 + 1)); rw [hf22], by omega⟩⟩, mB.of ht hP⟩, hS.F ht⟩) hS.2.2 dX12_writeWord_30
set_option maxHeartbeats 4000000 in
set_option maxRecDepth 100000 in
theorem m_writeNumber0 (l : Launch) (dC : Nat → ClassId) (dI : Nat → Nat → Nat) (ar : Nat → Nat) (cy : Nat → ClassId) (sz : Nat) (hN : MN ar) (st : Nat → Nat → Int32) (sl : Nat → Nat → Int64) (va : Nat) (gt : Nat) (hva : va < 10) (hI : MI st) (h37 : st 0 37 = nI gt) (h37b : gt + 1 ≤ 64) : Met l yX12_writeNumber wsX12_writeNumber ({ frames := 1, cells := 0, slots := 0, locals := 21 }) (va_Pc [.ref (ar 0), .int (nI va)] (mPre dC dI ar cy sz st sl)) (va_Qv (fun (x : MT) => MG [1, 2, 3, 4, 5, 6, 7, 8, 9, 10, 11, 12, 13, 14, 16, 17, 19, 20, 21, 22, 23] st x.1 ∧ LQ [7, 9] sl x.2 ∧ (∃ n : Nat, x.1 0 37 = nI n ∧ n ≤ gt + 1)) (mB dC dI ar cy) (MA ar sz)) 0 0 (MA ar sz) := by
  refine Met.ofW (cc := cX12_writeNumber) (maxL := 2) (ret := none) (by decide) rfl ?_
  intro p e s m args below meth c s₁ B hml hv
  obtain ⟨rfl, hsz, hP, hK⟩ := hv
  have hx := B.exec
  have hb := B.bytes
  have hr := B.returns
  have hts := atoms_spec (ws := wsX12_writeNumber) B.pre
  have hown : s.vm.findClass RX12 = some m.cls := findClass_of_methodNamed B.named
  subst hsz
  have hS : va_S (MA ar s.heap.size) s.heap s.heap [] := va_S.rf
  have hG : MG [1, 2, 3, 4, 5, 6, 7, 8, 9, 10, 11, 12, 13, 14, 16, 17, 19, 20, 21, 22, 23] st st := MG.rf hI
  have hl := lv_entry ([.ref (ar 0), .int (nI va)]) (n := 2) (Nat.le_of_ble_eq_true rfl)
  rw [lg_entry_eq]
  generalize (lg_sl ([.ref (ar 0), .int (nI va)]) ++ List.replicate (2 - (lg_sl ([.ref (ar 0), .int (nI va)])).length) Slot.unset).toArray = ls at hl ⊢
  have hl : lv_has ls 2 [(0, .ref (ar 0)), (1, .int (nI va))] := hl
  clear hI
  have hL : LQ [7, 9] sl sl := LQ.rf
  refine lv_iload_n hx hb dX12_writeNumber_0 rfl (lv_at hl 1 rfl) ?_
  refine lv_bipush (v := 9) hx hb dX12_writeNumber_1 (by decide) ?_
  refine lv_icmp_le (tgt := 14) hx hb dX12_writeNumber_3 (by decide) (fun _ => ?_) (fun cc => absurd ((nI_leI (a := va) (b := 9) (by omega) (by omega)).mpr (by omega)) cc)
  refine lv_aload_n hx hb dX12_writeNumber_14 rfl (lv_at hl 0 rfl) ?_
  refine lv_bipush (v := 48) hx hb dX12_writeNumber_15 (by decide) ?_
  refine lv_iload_n hx hb dX12_writeNumber_17 rfl (lv_at hl 1 rfl) ?_
  refine lv_bipush (v := 10) hx hb dX12_writeNumber_18 (by decide) ?_
  refine lv_irem hx hb dX12_writeNumber_20 (by decide) ?_
  refine lv_topi (fun z1 ez1 => ?_)
  clear ez1
  refine lv_iadd hx hb dX12_writeNumber_21 ?_
  refine lv_topi (fun z2 ez2 => ?_)
  refine va_callv (va_runV (As := [.int z2]) (rest := []) ⟨hx, hb, hml, hown, hts⟩ (m_write l dC dI ar cy _ hN st sl z2 gt  hG.1 (by rw [h37]) (by omega)) (cwV 1 hts gX12_writeNumber_X12_write rfl rfl rfl (by decide +kernel) ⟨Nat.le_of_ble_eq_true rfl, Nat.le_of_ble_eq_true rfl⟩) ⟨fun a U g mk q => ⟨q.1, mPre.blind q.2⟩, va_recv hK hP (ci := 11) (q0 := 0) rfl rfl, fun U hU hW => ⟨rfl, mPre.of hP hK hU hW⟩⟩ rfl rfl hl.1 rfl (lv_room (Nat.le_of_ble_eq_true rfl)) dX12_writeNumber_22 ⟨Nat.le_of_ble_eq_true rfl, Nat.le_of_ble_eq_true rfl⟩) hS (fun q _ h => MA.le hS.1 q h) (MA.le hS.1) (fun x t H locs ht hvm hw hB _ _ hS => ?_)
  have hP := mB.at ht hB
  clear hB ht hvm
  obtain ⟨st4, sl5⟩ := x
  obtain ⟨hG2, hL2, hw⟩ := hw
  have hL : LQ [7, 9] sl sl5 := hL.tr hL2 (by decide)
  clear hL2
  dsimp only at hw
  have hP : va_P (dC, dI) vwCl (mw ar cy st4 sl5) _ := hP
  have hG : MG [1, 2, 3, 4, 5, 6, 7, 8, 9, 10, 11, 12, 13, 14, 16, 17, 19, 20, 21, 22, 23] st st4 := hG.tr hG2 (by decide)
  have hGst4 : MG [1, 2, 3, 4, 5, 6, 7, 8, 9, 10, 11, 12, 13, 14, 16, 17, 19, 20, 21, 22, 23] st st4 := hG2
  clear hG2
  have hf6 := hw
  exact W.vret hx hb hr (fun t ht hW => ⟨⟨(st4, sl5), rfl, ⟨hG, hL, ⟨(gt + 1), by show st4 0 37 = (nI (gt + 1)); rw [hf6], by omega⟩⟩, mB.of ht hP⟩, hS.F ht⟩) hS.2.2 dX12_writeNumber_25
set_option maxHeartbeats 4000000 in
set_option maxRecDepth 100000 in
theorem m_writeNumber1 (l : Launch) (dC : Nat → ClassId) (dI : Nat → Nat → Nat) (ar : Nat → Nat) (cy : Nat → ClassId) (sz : Nat) (hN : MN ar) (st : Nat → Nat → Int32) (sl : Nat → Nat → Int64) (va : Nat) (gt : Nat) (hva : va < 32) (hI : MI st) (h37 : st 0 37 = nI gt) (h37b : gt + 2 ≤ 64) : Met l yX12_writeNumber wsX12_writeNumber ({ frames := 2, cells := 0, slots := 0, locals := 42 }) (va_Pc [.ref (ar 0), .int (nI va)] (mPre dC dI ar cy sz st sl)) (va_Qv (fun (x : MT) => MG [1, 2, 3, 4, 5, 6, 7, 8, 9, 10, 11, 12, 13, 14, 16, 17, 19, 20, 21, 22, 23] st x.1 ∧ LQ [7, 9] sl x.2 ∧ (∃ n : Nat, x.1 0 37 = nI n ∧ n ≤ gt + 2)) (mB dC dI ar cy) (MA ar sz)) 0 0 (MA ar sz) := by
  refine Met.ofW (cc := cX12_writeNumber) (maxL := 2) (ret := none) (by decide) rfl ?_
  intro p e s m args below meth c s₁ B hml hv
  obtain ⟨rfl, hsz, hP, hK⟩ := hv
  have hx := B.exec
  have hb := B.bytes
  have hr := B.returns
  have hts := atoms_spec (ws := wsX12_writeNumber) B.pre
  have hown : s.vm.findClass RX12 = some m.cls := findClass_of_methodNamed B.named
  subst hsz
  have hS : va_S (MA ar s.heap.size) s.heap s.heap [] := va_S.rf
  have hG : MG [1, 2, 3, 4, 5, 6, 7, 8, 9, 10, 11, 12, 13, 14, 16, 17, 19, 20, 21, 22, 23] st st := MG.rf hI
  have hl := lv_entry ([.ref (ar 0), .int (nI va)]) (n := 2) (Nat.le_of_ble_eq_true rfl)
  rw [lg_entry_eq]
  generalize (lg_sl ([.ref (ar 0), .int (nI va)]) ++ List.replicate (2 - (lg_sl ([.ref (ar 0), .int (nI va)])).length) Slot.unset).toArray = ls at hl ⊢
  have hl : lv_has ls 2 [(0, .ref (ar 0)), (1, .int (nI va))] := hl
  clear hI
  have hL : LQ [7, 9] sl sl := LQ.rf
  refine lv_iload_n hx hb dX12_writeNumber_0 rfl (lv_at hl 1 rfl) ?_
  refine lv_bipush (v := 9) hx hb dX12_writeNumber_1 (by decide) ?_
  refine lv_icmp_le (tgt := 14) hx hb dX12_writeNumber_3 (by decide) (fun c1 => ?_) (fun c1 => ?_)
  · have c1 : va ≤ 9 := (nI_leI (a := va) (b := 9) (by omega) (by omega)).mp c1
    refine lv_aload_n hx hb dX12_writeNumber_14 rfl (lv_at hl 0 rfl) ?_
    refine lv_bipush (v := 48) hx hb dX12_writeNumber_15 (by decide) ?_
    refine lv_iload_n hx hb dX12_writeNumber_17 rfl (lv_at hl 1 rfl) ?_
    refine lv_bipush (v := 10) hx hb dX12_writeNumber_18 (by decide) ?_
    refine lv_irem hx hb dX12_writeNumber_20 (by decide) ?_
    refine lv_topi (fun z1 ez1 => ?_)
    clear ez1
    refine lv_iadd hx hb dX12_writeNumber_21 ?_
    refine lv_topi (fun z2 ez2 => ?_)
    refine va_callv (va_runV (As := [.int z2]) (rest := []) ⟨hx, hb, hml, hown, hts⟩ (m_write l dC dI ar cy _ hN st sl z2 gt  hG.1 (by rw [h37]) (by omega)) (cwV 1 hts gX12_writeNumber_X12_write rfl rfl rfl (by decide +kernel) ⟨Nat.le_of_ble_eq_true rfl, Nat.le_of_ble_eq_true rfl⟩) ⟨fun a U g mk q => ⟨q.1, mPre.blind q.2⟩, va_recv hK hP (ci := 11) (q0 := 0) rfl rfl, fun U hU hW => ⟨rfl, mPre.of hP hK hU hW⟩⟩ rfl rfl hl.1 rfl (lv_room (Nat.le_of_ble_eq_true rfl)) dX12_writeNumber_22 ⟨Nat.le_of_ble_eq_true rfl, Nat.le_of_ble_eq_true rfl⟩) hS (fun q _ h => MA.le hS.1 q h) (MA.le hS.1) (fun x t H locs ht hvm hw hB _ _ hS => ?_)
    have hP := mB.at ht hB
    clear hB ht hvm
    obtain ⟨st4, sl5⟩ := x
    obtain ⟨hG2, hL2, hw⟩ := hw
    have hL : LQ [7, 9] sl sl5 := hL.tr hL2 (by decide)
    clear hL2
    dsimp only at hw
    have hP : va_P (dC, dI) vwCl (mw ar cy st4 sl5) _ := hP
    have hG : MG [1, 2, 3, 4, 5, 6, 7, 8, 9, 10, 11, 12, 13, 14, 16, 17, 19, 20, 21, 22, 23] st st4 := hG.tr hG2 (by decide)
    have hGst4 : MG [1, 2, 3, 4, 5, 6, 7, 8, 9, 10, 11, 12, 13, 14, 16, 17, 19, 20, 21, 22, 23] st st4 := hG2
    clear hG2
    have hf6 := hw
    exact W.vret hx hb hr (fun t ht hW => ⟨⟨(st4, sl5), rfl, ⟨hG, hL, ⟨(gt + 1), by show st4 0 37 = (nI (gt + 1)); rw [hf6], by omega⟩⟩, mB.of ht hP⟩, hS.F ht⟩) hS.2.2 dX12_writeNumber_25
  · have c1 : ¬ va ≤ 9 := fun hh => c1 ((nI_leI (a := va) (b := 9) (by omega) (by omega)).mpr hh)
    refine lv_aload_n hx hb dX12_writeNumber_6 rfl (lv_at hl 0 rfl) ?_
    refine lv_iload_n hx hb dX12_writeNumber_7 rfl (lv_at hl 1 rfl) ?_
    refine lv_bipush (v := 10) hx hb dX12_writeNumber_8 (by decide) ?_
    refine lv_idiv hx hb dX12_writeNumber_10 (by decide) ?_
    refine zz_top (v := nI (va / 10)) (nI_divN (b := 10) (by omega) (by omega)) ?_
    refine va_callv (va_runV (As := [.int (nI (va / 10))]) (rest := []) ⟨hx, hb, hml, hown, hts⟩ (m_writeNumber0 l dC dI ar cy _ hN st sl (va / 10) gt (by omega) hG.1 (by rw [h37]) (by omega)) (cwV 1 hts gX12_writeNumber_X12_writeNumber rfl rfl rfl (by decide +kernel) ⟨Nat.le_of_ble_eq_true rfl, Nat.le_of_ble_eq_true rfl⟩) ⟨fun a U g mk q => ⟨q.1, mPre.blind q.2⟩, va_recv hK hP (ci := 11) (q0 := 0) rfl rfl, fun U hU hW => ⟨rfl, mPre.of hP hK hU hW⟩⟩ rfl rfl hl.1 rfl (lv_room (Nat.le_of_ble_eq_true rfl)) dX12_writeNumber_11 ⟨Nat.le_of_ble_eq_true rfl, Nat.le_of_ble_eq_true rfl⟩) hS (fun q _ h => MA.le hS.1 q h) (MA.le hS.1) (fun x t H locs ht hvm hw hB _ _ hS => ?_)
    have hP := mB.at ht hB
    clear hB ht hvm
    obtain ⟨st8, sl9⟩ := x
    obtain ⟨hG2, hL2, hw⟩ := hw
    have hL : LQ [7, 9] sl sl9 := hL.tr hL2 (by decide)
    clear hL2
    dsimp only at hw
    have hP : va_P (dC, dI) vwCl (mw ar cy st8 sl9) _ := hP
    have hG : MG [1, 2, 3, 4, 5, 6, 7, 8, 9, 10, 11, 12, 13, 14, 16, 17, 19, 20, 21, 22, 23] st st8 := hG.tr hG2 (by decide)
    have hGst8 : MG [1, 2, 3, 4, 5, 6, 7, 8, 9, 10, 11, 12, 13, 14, 16, 17, 19, 20, 21, 22, 23] st st8 := hG2
    clear hG2
    obtain ⟨n10, hf11, hf12⟩ := hw
    refine lv_aload_n hx hb dX12_writeNumber_14 rfl (lv_at hl 0 rfl) ?_
    refine lv_bipush (v := 48) hx hb dX12_writeNumber_15 (by decide) ?_
    refine lv_iload_n hx hb dX12_writeNumber_17 rfl (lv_at hl 1 rfl) ?_
    refine lv_bipush (v := 10) hx hb dX12_writeNumber_18 (by decide) ?_
    refine lv_irem hx hb dX12_writeNumber_20 (by decide) ?_
    refine lv_topi (fun z13 ez13 => ?_)
    clear ez13
    refine lv_iadd hx hb dX12_writeNumber_21 ?_
    refine lv_topi (fun z14 ez14 => ?_)
    refine va_callv (va_runV (As := [.int z14]) (rest := []) ⟨hx, hb, hml, hown, hts⟩ (m_write l dC dI ar cy _ hN st8 sl9 z14 n10  hG.1 (by rw [hf11]) (by omega)) (cwV 1 hts gX12_writeNumber_X12_write rfl rfl rfl (by decide +kernel) ⟨Nat.le_of_ble_eq_true rfl, Nat.le_of_ble_eq_true rfl⟩) ⟨fun a U g mk q => ⟨q.1, mPre.blind q.2⟩, va_recv hK hP (ci := 11) (q0 := 0) rfl rfl, fun U hU hW => ⟨rfl, mPre.of hP hK hU hW⟩⟩ rfl rfl hl.1 rfl (lv_room (Nat.le_of_ble_eq_true rfl)) dX12_writeNumber_22 ⟨Nat.le_of_ble_eq_true rfl, Nat.le_of_ble_eq_true rfl⟩) hS (fun q _ h => MA.le hS.1 q h) (MA.le hS.1) (fun x t H locs ht hvm hw hB _ _ hS => ?_)
    have hP := mB.at ht hB
    clear hB ht hvm
    obtain ⟨st16, sl17⟩ := x
    obtain ⟨hG2, hL2, hw⟩ := hw
    have hL : LQ [7, 9] sl sl17 := hL.tr hL2 (by decide)
    clear hL2
    dsimp only at hw
    have hP : va_P (dC, dI) vwCl (mw ar cy st16 sl17) _ := hP
    have hG : MG [1, 2, 3, 4, 5, 6, 7, 8, 9, 10, 11, 12, 13, 14, 16, 17, 19, 20, 21, 22, 23] st st16 := hG.tr hG2 (by decide)
    have hGst16 : MG [1, 2, 3, 4, 5, 6, 7, 8, 9, 10, 11, 12, 13, 14, 16, 17, 19, 20, 21, 22, 23] st8 st16 := hG2
    clear hG2
    have hf18 := hw
    exact W.vret hx hb hr (fun t ht hW => ⟨⟨(st16, sl17), rfl, ⟨hG, hL, ⟨(n10 + 1), by show st16 0 37 = (nI (n10 + 1)); rw [hf18], by omega⟩⟩, mB.of ht hP⟩, hS.F ht⟩) hS.2.2 dX12_writeNumber_25
set_option maxHeartbeats 4000000 in
set_option maxRecDepth 100000 in
theorem m_spelt_on (l : Launch) (dC : Nat → ClassId) (dI : Nat → Nat → Nat) (ar : Nat → Nat) (cy : Nat → ClassId) (sz : Nat) (hN : MN ar) (st : Nat → Nat → Int32) (sl : Nat → Nat → Int64) (hI : MI st) : Met l yX12_spelt wsX12_spelt ({ frames := 0, cells := 0, slots := 0, locals := 0 }) (va_Pc [.int 111, .int 110, .int 0, .int 0, .int 0, .int 0, .int 0] (mPre dC dI ar cy sz st sl)) (va_Ql (fun (r : Int64) (x : MT) => x = (st, sl) ∧ (r = 419)) (mB dC dI ar cy) (MA ar sz)) 0 0 (MA ar sz) := by
  refine Met.ofW (cc := cX12_spelt) (maxL := 9) (ret := (some .long)) (by decide) rfl ?_
  intro p e s m args below meth c s₁ B hml hv
  obtain ⟨rfl, hsz, hP, hK⟩ := hv
  have hx := B.exec
  have hb := B.bytes
  have hr := B.returns
  have hts := atoms_spec (ws := wsX12_spelt) B.pre
  have hown : s.vm.findClass RX12 = some m.cls := findClass_of_methodNamed B.named
  subst hsz
  have hS : va_S (MA ar s.heap.size) s.heap s.heap [] := va_S.rf
  have hG : MG [1, 2, 3, 4, 5, 6, 7, 8, 9, 10, 11, 12, 13, 14, 15, 16, 17, 19, 20, 21, 22, 23] st st := MG.rf hI
  have hl := lv_entry ([.int 111, .int 110, .int 0, .int 0, .int 0, .int 0, .int 0]) (n := 9) (Nat.le_of_ble_eq_true rfl)
  rw [lg_entry_eq]
  generalize (lg_sl ([.int 111, .int 110, .int 0, .int 0, .int 0, .int 0, .int 0]) ++ List.replicate (9 - (lg_sl ([.int 111, .int 110, .int 0, .int 0, .int 0, .int 0, .int 0])).length) Slot.unset).toArray = ls at hl ⊢
  have hl : lv_has ls 9 [(0, .int 111), (1, .int 110), (2, .int 0), (3, .int 0), (4, .int 0), (5, .int 0), (6, .int 0)] := hl
  clear hI
  refine lv_ldc2 (v := 27) hx hb hown (hts _ mm_X12_spelt_1) dX12_spelt_0 ?_
  refine lv_iload_n hx hb dX12_spelt_3 rfl (lv_at hl 0 rfl) ?_
  refine lv_i2l (v := 111) hx hb dX12_spelt_4 (by decide) ?_
  refine lv_ldc2 (v := 96) hx hb hown (hts _ mm_X12_spelt_2) dX12_spelt_5 ?_
  refine lv_lsub hx hb dX12_spelt_8 ?_
  refine zz_topl (v := 15) (by decide) ?_
  refine lv_lmul hx hb dX12_spelt_9 ?_
  refine zz_topl (v := 405) (by decide) ?_
  refine lv_iload_n hx hb dX12_spelt_10 rfl (lv_at hl 1 rfl) ?_
  refine lv_i2l (v := 110) hx hb dX12_spelt_11 (by decide) ?_
  refine lv_ladd hx hb dX12_spelt_12 ?_
  refine zz_topl (v := 515) (by decide) ?_
  refine lv_ldc2 (v := 96) hx hb hown (hts _ mm_X12_spelt_2) dX12_spelt_13 ?_
  refine lv_lsub hx hb dX12_spelt_16 ?_
  refine zz_topl (v := 419) (by decide) ?_
  refine lv_lstore (lv' := [(7, .long 419), (0, .int 111), (1, .int 110), (2, .int 0), (3, .int 0), (4, .int 0), (5, .int 0), (6, .int 0)]) hx hb dX12_spelt_17 hl (by decide) rfl (fun ls hl => ?_)
  refine lv_iload_n hx hb dX12_spelt_19 rfl (lv_at hl 3 rfl) ?_
  refine lv_if_le (tgt := 38) hx hb dX12_spelt_20 (by decide) (fun _ => ?_) (fun cc => absurd (by decide) cc)
  refine lv_iload_n hx hb dX12_spelt_38 rfl (lv_at hl 4 rfl) ?_
  refine lv_if_le (tgt := 57) hx hb dX12_spelt_39 (by decide) (fun _ => ?_) (fun cc => absurd (by decide) cc)
  refine lv_iload hx hb dX12_spelt_57 (lv_at hl 5 rfl) ?_
  refine lv_if_le (tgt := 78) hx hb dX12_spelt_59 (by decide) (fun _ => ?_) (fun cc => absurd (by decide) cc)
  refine lv_iload hx hb dX12_spelt_78 (lv_at hl 6 rfl) ?_
  refine lv_if_le (tgt := 99) hx hb dX12_spelt_80 (by decide) (fun _ => ?_) (fun cc => absurd (by decide) cc)
  refine lv_iload hx hb dX12_spelt_99 (lv_at hl 7 rfl) ?_
  refine lv_if_le (tgt := 120) hx hb dX12_spelt_101 (by decide) (fun _ => ?_) (fun cc => absurd (by decide) cc)
  refine lv_lload hx hb dX12_spelt_120 (lv_at hl 0 rfl) ?_
  exact W.lret (v := 419) hx hb hr (fun t ht hW => ⟨⟨419, (st, sl), rfl, ⟨rfl, rfl⟩, mB.of ht hP⟩, hS.F ht⟩) hS.2.2 dX12_spelt_122
set_option maxHeartbeats 4000000 in
set_option maxRecDepth 100000 in
theorem m_spelt_the (l : Launch) (dC : Nat → ClassId) (dI : Nat → Nat → Nat) (ar : Nat → Nat) (cy : Nat → ClassId) (sz : Nat) (hN : MN ar) (st : Nat → Nat → Int32) (sl : Nat → Nat → Int64) (hI : MI st) : Met l yX12_spelt wsX12_spelt ({ frames := 0, cells := 0, slots := 0, locals := 0 }) (va_Pc [.int 116, .int 104, .int 101, .int 0, .int 0, .int 0, .int 0] (mPre dC dI ar cy sz st sl)) (va_Ql (fun (r : Int64) (x : MT) => x = (st, sl) ∧ (r = 14801)) (mB dC dI ar cy) (MA ar sz)) 0 0 (MA ar sz) := by
  refine Met.ofW (cc := cX12_spelt) (maxL := 9) (ret := (some .long)) (by decide) rfl ?_
  intro p e s m args below meth c s₁ B hml hv
  obtain ⟨rfl, hsz, hP, hK⟩ := hv
  have hx := B.exec
  have hb := B.bytes
  have hr := B.returns
  have hts := atoms_spec (ws := wsX12_spelt) B.pre
  have hown : s.vm.findClass RX12 = some m.cls := findClass_of_methodNamed B.named
  subst hsz
  have hS : va_S (MA ar s.heap.size) s.heap s.heap [] := va_S.rf
  have hG : MG [1, 2, 3, 4, 5, 6, 7, 8, 9, 10, 11, 12, 13, 14, 15, 16, 17, 19, 20, 21, 22, 23] st st := MG.rf hI
  have hl := lv_entry ([.int 116, .int 104, .int 101, .int 0, .int 0, .int 0, .int 0]) (n := 9) (Nat.le_of_ble_eq_true rfl)
  rw [lg_entry_eq]
  generalize (lg_sl ([.int 116, .int 104, .int 101, .int 0, .int 0, .int 0, .int 0]) ++ List.replicate (9 - (lg_sl ([.int 116, .int 104, .int 101, .int 0, .int 0, .int 0, .int 0])).length) Slot.unset).toArray = ls at hl ⊢
  have hl : lv_has ls 9 [(0, .int 116), (1, .int 104), (2, .int 101), (3, .int 0), (4, .int 0), (5, .int 0), (6, .int 0)] := hl
  clear hI
  refine lv_ldc2 (v := 27) hx hb hown (hts _ mm_X12_spelt_1) dX12_spelt_0 ?_
  refine lv_iload_n hx hb dX12_spelt_3 rfl (lv_at hl 0 rfl) ?_
  refine lv_i2l (v := 116) hx hb dX12_spelt_4 (by decide) ?_
  refine lv_ldc2 (v := 96) hx hb hown (hts _ mm_X12_spelt_2) dX12_spelt_5 ?_
  refine lv_lsub hx hb dX12_spelt_8 ?_
  refine zz_topl (v := 20) (by decide) ?_
  refine lv_lmul hx hb dX12_spelt_9 ?_
  refine zz_topl (v := 540) (by decide) ?_
  refine lv_iload_n hx hb dX12_spelt_10 rfl (lv_at hl 1 rfl) ?_
  refine lv_i2l (v := 104) hx hb dX12_spelt_11 (by decide) ?_
  refine lv_ladd hx hb dX12_spelt_12 ?_
  refine zz_topl (v := 644) (by decide) ?_
  refine lv_ldc2 (v := 96) hx hb hown (hts _ mm_X12_spelt_2) dX12_spelt_13 ?_
  refine lv_lsub hx hb dX12_spelt_16 ?_
  refine zz_topl (v := 548) (by decide) ?_
  refine lv_lstore (lv' := [(7, .long 548), (0, .int 116), (1, .int 104), (2, .int 101), (3, .int 0), (4, .int 0), (5, .int 0), (6, .int 0)]) hx hb dX12_spelt_17 hl (by decide) rfl (fun ls hl => ?_)
  refine lv_iload_n hx hb dX12_spelt_19 rfl (lv_at hl 3 rfl) ?_
  refine lv_if_le (tgt := 38) hx hb dX12_spelt_20 (by decide) (fun cc => absurd cc (by decide)) (fun _ => ?_)
  refine lv_ldc2 (v := 27) hx hb hown (hts _ mm_X12_spelt_1) dX12_spelt_23 ?_
  refine lv_lload hx hb dX12_spelt_26 (lv_at hl 0 rfl) ?_
  refine lv_lmul hx hb dX12_spelt_28 ?_
  refine zz_topl (v := 14796) (by decide) ?_
  refine lv_iload_n hx hb dX12_spelt_29 rfl (lv_at hl 3 rfl) ?_
  refine lv_i2l (v := 101) hx hb dX12_spelt_30 (by decide) ?_
  refine lv_ladd hx hb dX12_spelt_31 ?_
  refine zz_topl (v := 14897) (by decide) ?_
  refine lv_ldc2 (v := 96) hx hb hown (hts _ mm_X12_spelt_2) dX12_spelt_32 ?_
  refine lv_lsub hx hb dX12_spelt_35 ?_
  refine zz_topl (v := 14801) (by decide) ?_
  refine lv_lstore (lv' := [(7, .long 14801), (0, .int 116), (1, .int 104), (2, .int 101), (3, .int 0), (4, .int 0), (5, .int 0), (6, .int 0)]) hx hb dX12_spelt_36 hl (by decide) rfl (fun ls hl => ?_)
  refine lv_iload_n hx hb dX12_spelt_38 rfl (lv_at hl 4 rfl) ?_
  refine lv_if_le (tgt := 57) hx hb dX12_spelt_39 (by decide) (fun _ => ?_) (fun cc => absurd (by decide) cc)
  refine lv_iload hx hb dX12_spelt_57 (lv_at hl 5 rfl) ?_
  refine lv_if_le (tgt := 78) hx hb dX12_spelt_59 (by decide) (fun _ => ?_) (fun cc => absurd (by decide) cc)
  refine lv_iload hx hb dX12_spelt_78 (lv_at hl 6 rfl) ?_
  refine lv_if_le (tgt := 99) hx hb dX12_spelt_80 (by decide) (fun _ => ?_) (fun cc => absurd (by decide) cc)
  refine lv_iload hx hb dX12_spelt_99 (lv_at hl 7 rfl) ?_
  refine lv_if_le (tgt := 120) hx hb dX12_spelt_101 (by decide) (fun _ => ?_) (fun cc => absurd (by decide) cc)
  refine lv_lload hx hb dX12_spelt_120 (lv_at hl 0 rfl) ?_
  exact W.lret (v := 14801) hx hb hr (fun t ht hW => ⟨⟨14801, (st, sl), rfl, ⟨rfl, rfl⟩, mB.of ht hP⟩, hS.F ht⟩) hS.2.2 dX12_spelt_122
set_option maxHeartbeats 4000000 in
set_option maxRecDepth 100000 in
theorem m_spelt_lead (l : Launch) (dC : Nat → ClassId) (dI : Nat → Nat → Nat) (ar : Nat → Nat) (cy : Nat → ClassId) (sz : Nat) (hN : MN ar) (st : Nat → Nat → Int32) (sl : Nat → Nat → Int64) (hI : MI st) : Met l yX12_spelt wsX12_spelt ({ frames := 0, cells := 0, slots := 0, locals := 0 }) (va_Pc [.int 108, .int 101, .int 97, .int 100, .int 0, .int 0, .int 0] (mPre dC dI ar cy sz st sl)) (va_Ql (fun (r : Int64) (x : MT) => x = (st, sl) ∧ (r = 239872)) (mB dC dI ar cy) (MA ar sz)) 0 0 (MA ar sz) := by
  refine Met.ofW (cc := cX12_spelt) (maxL := 9) (ret := (some .long)) (by decide) rfl ?_
  intro p e s m args below meth c s₁ B hml hv
  obtain ⟨rfl, hsz, hP, hK⟩ := hv
  have hx := B.exec
  have hb := B.bytes
  have hr := B.returns
  have hts := atoms_spec (ws := wsX12_spelt) B.pre
  have hown : s.vm.findClass RX12 = some m.cls := findClass_of_methodNamed B.named
  subst hsz
  have hS : va_S (MA ar s.heap.size) s.heap s.heap [] := va_S.rf
  have hG : MG [1, 2, 3, 4, 5, 6, 7, 8, 9, 10, 11, 12, 13, 14, 15, 16, 17, 19, 20, 21, 22, 23] st st := MG.rf hI
  have hl := lv_entry ([.int 108, .int 101, .int 97, .int 100, .int 0, .int 0, .int 0]) (n := 9) (Nat.le_of_ble_eq_true rfl)
  rw [lg_entry_eq]
  generalize (lg_sl ([.int 108, .int 101, .int 97, .int 100, .int 0, .int 0, .int 0]) ++ List.replicate (9 - (lg_sl ([.int 108, .int 101, .int 97, .int 100, .int 0, .int 0, .int 0])).length) Slot.unset).toArray = ls at hl ⊢
  have hl : lv_has ls 9 [(0, .int 108), (1, .int 101), (2, .int 97), (3, .int 100), (4, .int 0), (5, .int 0), (6, .int 0)] := hl
  clear hI
  refine lv_ldc2 (v := 27) hx hb hown (hts _ mm_X12_spelt_1) dX12_spelt_0 ?_
  refine lv_iload_n hx hb dX12_spelt_3 rfl (lv_at hl 0 rfl) ?_
  refine lv_i2l (v := 108) hx hb dX12_spelt_4 (by decide) ?_
  refine lv_ldc2 (v := 96) hx hb hown (hts _ mm_X12_spelt_2) dX12_spelt_5 ?_
  refine lv_lsub hx hb dX12_spelt_8 ?_
  refine zz_topl (v := 12) (by decide) ?_
  refine lv_lmul hx hb dX12_spelt_9 ?_
  refine zz_topl (v := 324) (by decide) ?_
  refine lv_iload_n hx hb dX12_spelt_10 rfl (lv_at hl 1 rfl) ?_
  refine lv_i2l (v := 101) hx hb dX12_spelt_11 (by decide) ?_
  refine lv_ladd hx hb dX12_spelt_12 ?_
  refine zz_topl (v := 425) (by decide) ?_
  refine lv_ldc2 (v := 96) hx hb hown (hts _ mm_X12_spelt_2) dX12_spelt_13 ?_
  refine lv_lsub hx hb dX12_spelt_16 ?_
  refine zz_topl (v := 329) (by decide) ?_
  refine lv_lstore (lv' := [(7, .long 329), (0, .int 108), (1, .int 101), (2, .int 97), (3, .int 100), (4, .int 0), (5, .int 0), (6, .int 0)]) hx hb dX12_spelt_17 hl (by decide) rfl (fun ls hl => ?_)
  refine lv_iload_n hx hb dX12_spelt_19 rfl (lv_at hl 3 rfl) ?_
  refine lv_if_le (tgt := 38) hx hb dX12_spelt_20 (by decide) (fun cc => absurd cc (by decide)) (fun _ => ?_)
  refine lv_ldc2 (v := 27) hx hb hown (hts _ mm_X12_spelt_1) dX12_spelt_23 ?_
  refine lv_lload hx hb dX12_spelt_26 (lv_at hl 0 rfl) ?_
  refine lv_lmul hx hb dX12_spelt_28 ?_
  refine zz_topl (v := 8883) (by decide) ?_
  refine lv_iload_n hx hb dX12_spelt_29 rfl (lv_at hl 3 rfl) ?_
  refine lv_i2l (v := 97) hx hb dX12_spelt_30 (by decide) ?_
  refine lv_ladd hx hb dX12_spelt_31 ?_
  refine zz_topl (v := 8980) (by decide) ?_
  refine lv_ldc2 (v := 96) hx hb hown (hts _ mm_X12_spelt_2) dX12_spelt_32 ?_
  refine lv_lsub hx hb dX12_spelt_35 ?_
  refine zz_topl (v := 8884) (by decide) ?_
  refine lv_lstore (lv' := [(7, .long 8884), (0, .int 108), (1, .int 101), (2, .int 97), (3, .int 100), (4, .int 0), (5, .int 0), (6, .int 0)]) hx hb dX12_spelt_36 hl (by decide) rfl (fun ls hl => ?_)
  refine lv_iload_n hx hb dX12_spelt_38 rfl (lv_at hl 4 rfl) ?_
  refine lv_if_le (tgt := 57) hx hb dX12_spelt_39 (by decide) (fun cc => absurd cc (by decide)) (fun _ => ?_)
  refine lv_ldc2 (v := 27) hx hb hown (hts _ mm_X12_spelt_1) dX12_spelt_42 ?_
  refine lv_lload hx hb dX12_spelt_45 (lv_at hl 0 rfl) ?_
  refine lv_lmul hx hb dX12_spelt_47 ?_
  refine zz_topl (v := 239868) (by decide) ?_
  refine lv_iload_n hx hb dX12_spelt_48 rfl (lv_at hl 4 rfl) ?_
  refine lv_i2l (v := 100) hx hb dX12_spelt_49 (by decide) ?_
  refine lv_ladd hx hb dX12_spelt_50 ?_
  refine zz_topl (v := 239968) (by decide) ?_
  refine lv_ldc2 (v := 96) hx hb hown (hts _ mm_X12_spelt_2) dX12_spelt_51 ?_
  refine lv_lsub hx hb dX12_spelt_54 ?_
  refine zz_topl (v := 239872) (by decide) ?_
  refine lv_lstore (lv' := [(7, .long 239872), (0, .int 108), (1, .int 101), (2, .int 97), (3, .int 100), (4, .int 0), (5, .int 0), (6, .int 0)]) hx hb dX12_spelt_55 hl (by decide) rfl (fun ls hl => ?_)
  refine lv_iload hx hb dX12_spelt_57 (lv_at hl 5 rfl) ?_
  refine lv_if_le (tgt := 78) hx hb dX12_spelt_59 (by decide) (fun _ => ?_) (fun cc => absurd (by decide) cc)
  refine lv_iload hx hb dX12_spelt_78 (lv_at hl 6 rfl) ?_
  refine lv_if_le (tgt := 99) hx hb dX12_spelt_80 (by decide) (fun _ => ?_) (fun cc => absurd (by decide) cc)
  refine lv_iload hx hb dX12_spelt_99 (lv_at hl 7 rfl) ?_
  refine lv_if_le (tgt := 120) hx hb dX12_spelt_101 (by decide) (fun _ => ?_) (fun cc => absurd (by decide) cc)
  refine lv_lload hx hb dX12_spelt_120 (lv_at hl 0 rfl) ?_
  exact W.lret (v := 239872) hx hb hr (fun t ht hW => ⟨⟨239872, (st, sl), rfl, ⟨rfl, rfl⟩, mB.of ht hP⟩, hS.F ht⟩) hS.2.2 dX12_spelt_122
set_option maxHeartbeats 4000000 in
set_option maxRecDepth 100000 in
theorem m_spelt_free (l : Launch) (dC : Nat → ClassId) (dI : Nat → Nat → Nat) (ar : Nat → Nat) (cy : Nat → ClassId) (sz : Nat) (hN : MN ar) (st : Nat → Nat → Int32) (sl : Nat → Nat → Int64) (hI : MI st) : Met l yX12_spelt wsX12_spelt ({ frames := 0, cells := 0, slots := 0, locals := 0 }) (va_Pc [.int 102, .int 114, .int 101, .int 101, .int 0, .int 0, .int 0] (mPre dC dI ar cy sz st sl)) (va_Ql (fun (r : Int64) (x : MT) => x = (st, sl) ∧ (r = 131360)) (mB dC dI ar cy) (MA ar sz)) 0 0 (MA ar sz) := by
  refine Met.ofW (cc := cX12_spelt) (maxL := 9) (ret := (some .long)) (by decide) rfl ?_
  intro p e s m args below meth c s₁ B hml hv
  obtain ⟨rfl, hsz, hP, hK⟩ := hv
  have hx := B.exec
  have hb := B.bytes
  have hr := B.returns
  have hts := atoms_spec (ws := wsX12_spelt) B.pre
  have hown : s.vm.findClass RX12 = some m.cls := findClass_of_methodNamed B.named
  subst hsz
  have hS : va_S (MA ar s.heap.size) s.heap s.heap [] := va_S.rf
  have hG : MG [1, 2, 3, 4, 5, 6, 7, 8, 9, 10, 11, 12, 13, 14, 15, 16, 17, 19, 20, 21, 22, 23] st st := MG.rf hI
  have hl := lv_entry ([.int 102, .int 114, .int 101, .int 101, .int 0, .int 0, .int 0]) (n := 9) (Nat.le_of_ble_eq_true rfl)
  rw [lg_entry_eq]
  generalize (lg_sl ([.int 102, .int 114, .int 101, .int 101, .int 0, .int 0, .int 0]) ++ List.replicate (9 - (lg_sl ([.int 102, .int 114, .int 101, .int 101, .int 0, .int 0, .int 0])).length) Slot.unset).toArray = ls at hl ⊢
  have hl : lv_has ls 9 [(0, .int 102), (1, .int 114), (2, .int 101), (3, .int 101), (4, .int 0), (5, .int 0), (6, .int 0)] := hl
  clear hI
  refine lv_ldc2 (v := 27) hx hb hown (hts _ mm_X12_spelt_1) dX12_spelt_0 ?_
  refine lv_iload_n hx hb dX12_spelt_3 rfl (lv_at hl 0 rfl) ?_
  refine lv_i2l (v := 102) hx hb dX12_spelt_4 (by decide) ?_
  refine lv_ldc2 (v := 96) hx hb hown (hts _ mm_X12_spelt_2) dX12_spelt_5 ?_
  refine lv_lsub hx hb dX12_spelt_8 ?_
  refine zz_topl (v := 6) (by decide) ?_
  refine lv_lmul hx hb dX12_spelt_9 ?_
  refine zz_topl (v := 162) (by decide) ?_
  refine lv_iload_n hx hb dX12_spelt_10 rfl (lv_at hl 1 rfl) ?_
  refine lv_i2l (v := 114) hx hb dX12_spelt_11 (by decide) ?_
  refine lv_ladd hx hb dX12_spelt_12 ?_
  refine zz_topl (v := 276) (by decide) ?_
  refine lv_ldc2 (v := 96) hx hb hown (hts _ mm_X12_spelt_2) dX12_spelt_13 ?_
  refine lv_lsub hx hb dX12_spelt_16 ?_
  refine zz_topl (v := 180) (by decide) ?_
  refine lv_lstore (lv' := [(7, .long 180), (0, .int 102), (1, .int 114), (2, .int 101), (3, .int 101), (4, .int 0), (5, .int 0), (6, .int 0)]) hx hb dX12_spelt_17 hl (by decide) rfl (fun ls hl => ?_)
  refine lv_iload_n hx hb dX12_spelt_19 rfl (lv_at hl 3 rfl) ?_
  refine lv_if_le (tgt := 38) hx hb dX12_spelt_20 (by decide) (fun cc => absurd cc (by decide)) (fun _ => ?_)
  refine lv_ldc2 (v := 27) hx hb hown (hts _ mm_X12_spelt_1) dX12_spelt_23 ?_
  refine lv_lload hx hb dX12_spelt_26 (lv_at hl 0 rfl) ?_
  refine lv_lmul hx hb dX12_spelt_28 ?_
  refine zz_topl (v := 4860) (by decide) ?_
  refine lv_iload_n hx hb dX12_spelt_29 rfl (lv_at hl 3 rfl) ?_
  refine lv_i2l (v := 101) hx hb dX12_spelt_30 (by decide) ?_
  refine lv_ladd hx hb dX12_spelt_31 ?_
  refine zz_topl (v := 4961) (by decide) ?_
  refine lv_ldc2 (v := 96) hx hb hown (hts _ mm_X12_spelt_2) dX12_spelt_32 ?_
  refine lv_lsub hx hb dX12_spelt_35 ?_
  refine zz_topl (v := 4865) (by decide) ?_
  refine lv_lstore (lv' := [(7, .long 4865), (0, .int 102), (1, .int 114), (2, .int 101), (3, .int 101), (4, .int 0), (5, .int 0), (6, .int 0)]) hx hb dX12_spelt_36 hl (by decide) rfl (fun ls hl => ?_)
  refine lv_iload_n hx hb dX12_spelt_38 rfl (lv_at hl 4 rfl) ?_
  refine lv_if_le (tgt := 57) hx hb dX12_spelt_39 (by decide) (fun cc => absurd cc (by decide)) (fun _ => ?_)
  refine lv_ldc2 (v := 27) hx hb hown (hts _ mm_X12_spelt_1) dX12_spelt_42 ?_
  refine lv_lload hx hb dX12_spelt_45 (lv_at hl 0 rfl) ?_
  refine lv_lmul hx hb dX12_spelt_47 ?_
  refine zz_topl (v := 131355) (by decide) ?_
  refine lv_iload_n hx hb dX12_spelt_48 rfl (lv_at hl 4 rfl) ?_
  refine lv_i2l (v := 101) hx hb dX12_spelt_49 (by decide) ?_
  refine lv_ladd hx hb dX12_spelt_50 ?_
  refine zz_topl (v := 131456) (by decide) ?_
  refine lv_ldc2 (v := 96) hx hb hown (hts _ mm_X12_spelt_2) dX12_spelt_51 ?_
  refine lv_lsub hx hb dX12_spelt_54 ?_
  refine zz_topl (v := 131360) (by decide) ?_
  refine lv_lstore (lv' := [(7, .long 131360), (0, .int 102), (1, .int 114), (2, .int 101), (3, .int 101), (4, .int 0), (5, .int 0), (6, .int 0)]) hx hb dX12_spelt_55 hl (by decide) rfl (fun ls hl => ?_)
  refine lv_iload hx hb dX12_spelt_57 (lv_at hl 5 rfl) ?_
  refine lv_if_le (tgt := 78) hx hb dX12_spelt_59 (by decide) (fun _ => ?_) (fun cc => absurd (by decide) cc)
  refine lv_iload hx hb dX12_spelt_78 (lv_at hl 6 rfl) ?_
  refine lv_if_le (tgt := 99) hx hb dX12_spelt_80 (by decide) (fun _ => ?_) (fun cc => absurd (by decide) cc)
  refine lv_iload hx hb dX12_spelt_99 (lv_at hl 7 rfl) ?_
  refine lv_if_le (tgt := 120) hx hb dX12_spelt_101 (by decide) (fun _ => ?_) (fun cc => absurd (by decide) cc)
  refine lv_lload hx hb dX12_spelt_120 (lv_at hl 0 rfl) ?_
  exact W.lret (v := 131360) hx hb hr (fun t ht hW => ⟨⟨131360, (st, sl), rfl, ⟨rfl, rfl⟩, mB.of ht hP⟩, hS.F ht⟩) hS.2.2 dX12_spelt_122
set_option maxHeartbeats 4000000 in
set_option maxRecDepth 100000 in
theorem m_spelt_to (l : Launch) (dC : Nat → ClassId) (dI : Nat → Nat → Nat) (ar : Nat → Nat) (cy : Nat → ClassId) (sz : Nat) (hN : MN ar) (st : Nat → Nat → Int32) (sl : Nat → Nat → Int64) (hI : MI st) : Met l yX12_spelt wsX12_spelt ({ frames := 0, cells := 0, slots := 0, locals := 0 }) (va_Pc [.int 116, .int 111, .int 0, .int 0, .int 0, .int 0, .int 0] (mPre dC dI ar cy sz st sl)) (va_Ql (fun (r : Int64) (x : MT) => x = (st, sl) ∧ (r = 555)) (mB dC dI ar cy) (MA ar sz)) 0 0 (MA ar sz) := by
  refine Met.ofW (cc := cX12_spelt) (maxL := 9) (ret := (some .long)) (by decide) rfl ?_
  intro p e s m args below meth c s₁ B hml hv
  obtain ⟨rfl, hsz, hP, hK⟩ := hv
  have hx := B.exec
  have hb := B.bytes
  have hr := B.returns
  have hts := atoms_spec (ws := wsX12_spelt) B.pre
  have hown : s.vm.findClass RX12 = some m.cls := findClass_of_methodNamed B.named
  subst hsz
  have hS : va_S (MA ar s.heap.size) s.heap s.heap [] := va_S.rf
  have hG : MG [1, 2, 3, 4, 5, 6, 7, 8, 9, 10, 11, 12, 13, 14, 15, 16, 17, 19, 20, 21, 22, 23] st st := MG.rf hI
  have hl := lv_entry ([.int 116, .int 111, .int 0, .int 0, .int 0, .int 0, .int 0]) (n := 9) (Nat.le_of_ble_eq_true rfl)
  rw [lg_entry_eq]
  generalize (lg_sl ([.int 116, .int 111, .int 0, .int 0, .int 0, .int 0, .int 0]) ++ List.replicate (9 - (lg_sl ([.int 116, .int 111, .int 0, .int 0, .int 0, .int 0, .int 0])).length) Slot.unset).toArray = ls at hl ⊢
  have hl : lv_has ls 9 [(0, .int 116), (1, .int 111), (2, .int 0), (3, .int 0), (4, .int 0), (5, .int 0), (6, .int 0)] := hl
  clear hI
  refine lv_ldc2 (v := 27) hx hb hown (hts _ mm_X12_spelt_1) dX12_spelt_0 ?_
  refine lv_iload_n hx hb dX12_spelt_3 rfl (lv_at hl 0 rfl) ?_
  refine lv_i2l (v := 116) hx hb dX12_spelt_4 (by decide) ?_
  refine lv_ldc2 (v := 96) hx hb hown (hts _ mm_X12_spelt_2) dX12_spelt_5 ?_
  refine lv_lsub hx hb dX12_spelt_8 ?_
  refine zz_topl (v := 20) (by decide) ?_
  refine lv_lmul hx hb dX12_spelt_9 ?_
  refine zz_topl (v := 540) (by decide) ?_
  refine lv_iload_n hx hb dX12_spelt_10 rfl (lv_at hl 1 rfl) ?_
  refine lv_i2l (v := 111) hx hb dX12_spelt_11 (by decide) ?_
  refine lv_ladd hx hb dX12_spelt_12 ?_
  refine zz_topl (v := 651) (by decide) ?_
  refine lv_ldc2 (v := 96) hx hb hown (hts _ mm_X12_spelt_2) dX12_spelt_13 ?_
  refine lv_lsub hx hb dX12_spelt_16 ?_
  refine zz_topl (v := 555) (by decide) ?_
  refine lv_lstore (lv' := [(7, .long 555), (0, .int 116), (1, .int 111), (2, .int 0), (3, .int 0), (4, .int 0), (5, .int 0), (6, .int 0)]) hx hb dX12_spelt_17 hl (by decide) rfl (fun ls hl => ?_)
  refine lv_iload_n hx hb dX12_spelt_19 rfl (lv_at hl 3 rfl) ?_
  refine lv_if_le (tgt := 38) hx hb dX12_spelt_20 (by decide) (fun _ => ?_) (fun cc => absurd (by decide) cc)
  refine lv_iload_n hx hb dX12_spelt_38 rfl (lv_at hl 4 rfl) ?_
  refine lv_if_le (tgt := 57) hx hb dX12_spelt_39 (by decide) (fun _ => ?_) (fun cc => absurd (by decide) cc)
  refine lv_iload hx hb dX12_spelt_57 (lv_at hl 5 rfl) ?_
  refine lv_if_le (tgt := 78) hx hb dX12_spelt_59 (by decide) (fun _ => ?_) (fun cc => absurd (by decide) cc)
  refine lv_iload hx hb dX12_spelt_78 (lv_at hl 6 rfl) ?_
  refine lv_if_le (tgt := 99) hx hb dX12_spelt_80 (by decide) (fun _ => ?_) (fun cc => absurd (by decide) cc)
  refine lv_iload hx hb dX12_spelt_99 (lv_at hl 7 rfl) ?_
  refine lv_if_le (tgt := 120) hx hb dX12_spelt_101 (by decide) (fun _ => ?_) (fun cc => absurd (by decide) cc)
  refine lv_lload hx hb dX12_spelt_120 (lv_at hl 0 rfl) ?_
  exact W.lret (v := 555) hx hb hr (fun t ht hW => ⟨⟨555, (st, sl), rfl, ⟨rfl, rfl⟩, mB.of ht hP⟩, hS.F ht⟩) hS.2.2 dX12_spelt_122
set_option maxHeartbeats 4000000 in
set_option maxRecDepth 100000 in
theorem m_spelt_and (l : Launch) (dC : Nat → ClassId) (dI : Nat → Nat → Nat) (ar : Nat → Nat) (cy : Nat → ClassId) (sz : Nat) (hN : MN ar) (st : Nat → Nat → Int32) (sl : Nat → Nat → Int64) (hI : MI st) : Met l yX12_spelt wsX12_spelt ({ frames := 0, cells := 0, slots := 0, locals := 0 }) (va_Pc [.int 97, .int 110, .int 100, .int 0, .int 0, .int 0, .int 0] (mPre dC dI ar cy sz st sl)) (va_Ql (fun (r : Int64) (x : MT) => x = (st, sl) ∧ (r = 1111)) (mB dC dI ar cy) (MA ar sz)) 0 0 (MA ar sz) := by
  refine Met.ofW (cc := cX12_spelt) (maxL := 9) (ret := (some .long)) (by decide) rfl ?_
  intro p e s m args below meth c s₁ B hml hv
  obtain ⟨rfl, hsz, hP, hK⟩ := hv
  have hx := B.exec
  have hb := B.bytes
  have hr := B.returns
  have hts := atoms_spec (ws := wsX12_spelt) B.pre
  have hown : s.vm.findClass RX12 = some m.cls := findClass_of_methodNamed B.named
  subst hsz
  have hS : va_S (MA ar s.heap.size) s.heap s.heap [] := va_S.rf
  have hG : MG [1, 2, 3, 4, 5, 6, 7, 8, 9, 10, 11, 12, 13, 14, 15, 16, 17, 19, 20, 21, 22, 23] st st := MG.rf hI
  have hl := lv_entry ([.int 97, .int 110, .int 100, .int 0, .int 0, .int 0, .int 0]) (n := 9) (Nat.le_of_ble_eq_true rfl)
  rw [lg_entry_eq]
  generalize (lg_sl ([.int 97, .int 110, .int 100, .int 0, .int 0, .int 0, .int 0]) ++ List.replicate (9 - (lg_sl ([.int 97, .int 110, .int 100, .int 0, .int 0, .int 0, .int 0])).length) Slot.unset).toArray = ls at hl ⊢
  have hl : lv_has ls 9 [(0, .int 97), (1, .int 110), (2, .int 100), (3, .int 0), (4, .int 0), (5, .int 0), (6, .int 0)] := hl
  clear hI
  refine lv_ldc2 (v := 27) hx hb hown (hts _ mm_X12_spelt_1) dX12_spelt_0 ?_
  refine lv_iload_n hx hb dX12_spelt_3 rfl (lv_at hl 0 rfl) ?_
  refine lv_i2l (v := 97) hx hb dX12_spelt_4 (by decide) ?_
  refine lv_ldc2 (v := 96) hx hb hown (hts _ mm_X12_spelt_2) dX12_spelt_5 ?_
  refine lv_lsub hx hb dX12_spelt_8 ?_
  refine zz_topl (v := 1) (by decide) ?_
  refine lv_lmul hx hb dX12_spelt_9 ?_
  refine zz_topl (v := 27) (by decide) ?_
  refine lv_iload_n hx hb dX12_spelt_10 rfl (lv_at hl 1 rfl) ?_
  refine lv_i2l (v := 110) hx hb dX12_spelt_11 (by decide) ?_
  refine lv_ladd hx hb dX12_spelt_12 ?_
  refine zz_topl (v := 137) (by decide) ?_
  refine lv_ldc2 (v := 96) hx hb hown (hts _ mm_X12_spelt_2) dX12_spelt_13 ?_
  refine lv_lsub hx hb dX12_spelt_16 ?_
  refine zz_topl (v := 41) (by decide) ?_
  refine lv_lstore (lv' := [(7, .long 41), (0, .int 97), (1, .int 110), (2, .int 100), (3, .int 0), (4, .int 0), (5, .int 0), (6, .int 0)]) hx hb dX12_spelt_17 hl (by decide) rfl (fun ls hl => ?_)
  refine lv_iload_n hx hb dX12_spelt_19 rfl (lv_at hl 3 rfl) ?_
  refine lv_if_le (tgt := 38) hx hb dX12_spelt_20 (by decide) (fun cc => absurd cc (by decide)) (fun _ => ?_)
  refine lv_ldc2 (v := 27) hx hb hown (hts _ mm_X12_spelt_1) dX12_spelt_23 ?_
  refine lv_lload hx hb dX12_spelt_26 (lv_at hl 0 rfl) ?_
  refine lv_lmul hx hb dX12_spelt_28 ?_
  refine zz_topl (v := 1107) (by decide) ?_
  refine lv_iload_n hx hb dX12_spelt_29 rfl (lv_at hl 3 rfl) ?_
  refine lv_i2l (v := 100) hx hb dX12_spelt_30 (by decide) ?_
  refine lv_ladd hx hb dX12_spelt_31 ?_
  refine zz_topl (v := 1207) (by decide) ?_
  refine lv_ldc2 (v := 96) hx hb hown (hts _ mm_X12_spelt_2) dX12_spelt_32 ?_
  refine lv_lsub hx hb dX12_spelt_35 ?_
  refine zz_topl (v := 1111) (by decide) ?_
  refine lv_lstore (lv' := [(7, .long 1111), (0, .int 97), (1, .int 110), (2, .int 100), (3, .int 0), (4, .int 0), (5, .int 0), (6, .int 0)]) hx hb dX12_spelt_36 hl (by decide) rfl (fun ls hl => ?_)
  refine lv_iload_n hx hb dX12_spelt_38 rfl (lv_at hl 4 rfl) ?_
  refine lv_if_le (tgt := 57) hx hb dX12_spelt_39 (by decide) (fun _ => ?_) (fun cc => absurd (by decide) cc)
  refine lv_iload hx hb dX12_spelt_57 (lv_at hl 5 rfl) ?_
  refine lv_if_le (tgt := 78) hx hb dX12_spelt_59 (by decide) (fun _ => ?_) (fun cc => absurd (by decide) cc)
  refine lv_iload hx hb dX12_spelt_78 (lv_at hl 6 rfl) ?_
  refine lv_if_le (tgt := 99) hx hb dX12_spelt_80 (by decide) (fun _ => ?_) (fun cc => absurd (by decide) cc)
  refine lv_iload hx hb dX12_spelt_99 (lv_at hl 7 rfl) ?_
  refine lv_if_le (tgt := 120) hx hb dX12_spelt_101 (by decide) (fun _ => ?_) (fun cc => absurd (by decide) cc)
  refine lv_lload hx hb dX12_spelt_120 (lv_at hl 0 rfl) ?_
  exact W.lret (v := 1111) hx hb hr (fun t ht hW => ⟨⟨1111, (st, sl), rfl, ⟨rfl, rfl⟩, mB.of ht hP⟩, hS.F ht⟩) hS.2.2 dX12_spelt_122
set_option maxHeartbeats 4000000 in
set_option maxRecDepth 100000 in
theorem m_spelt_more (l : Launch) (dC : Nat → ClassId) (dI : Nat → Nat → Nat) (ar : Nat → Nat) (cy : Nat → ClassId) (sz : Nat) (hN : MN ar) (st : Nat → Nat → Int32) (sl : Nat → Nat → Int64) (hI : MI st) : Met l yX12_spelt wsX12_spelt ({ frames := 0, cells := 0, slots := 0, locals := 0 }) (va_Pc [.int 109, .int 111, .int 114, .int 101, .int 0, .int 0, .int 0] (mPre dC dI ar cy sz st sl)) (va_Ql (fun (r : Int64) (x : MT) => x = (st, sl) ∧ (r = 267305)) (mB dC dI ar cy) (MA ar sz)) 0 0 (MA ar sz) := by
  refine Met.ofW (cc := cX12_spelt) (maxL := 9) (ret := (some .long)) (by decide) rfl ?_
  intro p e s m args below meth c s₁ B hml hv
  obtain ⟨rfl, hsz, hP, hK⟩ := hv
  have hx := B.exec
  have hb := B.bytes
  have hr := B.returns
  have hts := atoms_spec (ws := wsX12_spelt) B.pre
  have hown : s.vm.findClass RX12 = some m.cls := findClass_of_methodNamed B.named
  subst hsz
  have hS : va_S (MA ar s.heap.size) s.heap s.heap [] := va_S.rf
  have hG : MG [1, 2, 3, 4, 5, 6, 7, 8, 9, 10, 11, 12, 13, 14, 15, 16, 17, 19, 20, 21, 22, 23] st st := MG.rf hI
  have hl := lv_entry ([.int 109, .int 111, .int 114, .int 101, .int 0, .int 0, .int 0]) (n := 9) (Nat.le_of_ble_eq_true rfl)
  rw [lg_entry_eq]
  generalize (lg_sl ([.int 109, .int 111, .int 114, .int 101, .int 0, .int 0, .int 0]) ++ List.replicate (9 - (lg_sl ([.int 109, .int 111, .int 114, .int 101, .int 0, .int 0, .int 0])).length) Slot.unset).toArray = ls at hl ⊢
  have hl : lv_has ls 9 [(0, .int 109), (1, .int 111), (2, .int 114), (3, .int 101), (4, .int 0), (5, .int 0), (6, .int 0)] := hl
  clear hI
  refine lv_ldc2 (v := 27) hx hb hown (hts _ mm_X12_spelt_1) dX12_spelt_0 ?_
  refine lv_iload_n hx hb dX12_spelt_3 rfl (lv_at hl 0 rfl) ?_
  refine lv_i2l (v := 109) hx hb dX12_spelt_4 (by decide) ?_
  refine lv_ldc2 (v := 96) hx hb hown (hts _ mm_X12_spelt_2) dX12_spelt_5 ?_
  refine lv_lsub hx hb dX12_spelt_8 ?_
  refine zz_topl (v := 13) (by decide) ?_
  refine lv_lmul hx hb dX12_spelt_9 ?_
  refine zz_topl (v := 351) (by decide) ?_
  refine lv_iload_n hx hb dX12_spelt_10 rfl (lv_at hl 1 rfl) ?_
  refine lv_i2l (v := 111) hx hb dX12_spelt_11 (by decide) ?_
  refine lv_ladd hx hb dX12_spelt_12 ?_
  refine zz_topl (v := 462) (by decide) ?_
  refine lv_ldc2 (v := 96) hx hb hown (hts _ mm_X12_spelt_2) dX12_spelt_13 ?_
  refine lv_lsub hx hb dX12_spelt_16 ?_
  refine zz_topl (v := 366) (by decide) ?_
  refine lv_lstore (lv' := [(7, .long 366), (0, .int 109), (1, .int 111), (2, .int 114), (3, .int 101), (4, .int 0), (5, .int 0), (6, .int 0)]) hx hb dX12_spelt_17 hl (by decide) rfl (fun ls hl => ?_)
  refine lv_iload_n hx hb dX12_spelt_19 rfl (lv_at hl 3 rfl) ?_
  refine lv_if_le (tgt := 38) hx hb dX12_spelt_20 (by decide) (fun cc => absurd cc (by decide)) (fun _ => ?_)
  refine lv_ldc2 (v := 27) hx hb hown (hts _ mm_X12_spelt_1) dX12_spelt_23 ?_
  refine lv_lload hx hb dX12_spelt_26 (lv_at hl 0 rfl) ?_
  refine lv_lmul hx hb dX12_spelt_28 ?_
  refine zz_topl (v := 9882) (by decide) ?_
  refine lv_iload_n hx hb dX12_spelt_29 rfl (lv_at hl 3 rfl) ?_
  refine lv_i2l (v := 114) hx hb dX12_spelt_30 (by decide) ?_
  refine lv_ladd hx hb dX12_spelt_31 ?_
  refine zz_topl (v := 9996) (by decide) ?_
  refine lv_ldc2 (v := 96) hx hb hown (hts _ mm_X12_spelt_2) dX12_spelt_32 ?_
  refine lv_lsub hx hb dX12_spelt_35 ?_
  refine zz_topl (v := 9900) (by decide) ?_
  refine lv_lstore (lv' := [(7, .long 9900), (0, .int 109), (1, .int 111), (2, .int 114), (3, .int 101), (4, .int 0), (5, .int 0), (6, .int 0)]) hx hb dX12_spelt_36 hl (by decide) rfl (fun ls hl => ?_)
  refine lv_iload_n hx hb dX12_spelt_38 rfl (lv_at hl 4 rfl) ?_
  refine lv_if_le (tgt := 57) hx hb dX12_spelt_39 (by decide) (fun cc => absurd cc (by decide)) (fun _ => ?_)
  refine lv_ldc2 (v := 27) hx hb hown (hts _ mm_X12_spelt_1) dX12_spelt_42 ?_
  refine lv_lload hx hb dX12_spelt_45 (lv_at hl 0 rfl) ?_
  refine lv_lmul hx hb dX12_spelt_47 ?_
  refine zz_topl (v := 267300) (by decide) ?_
  refine lv_iload_n hx hb dX12_spelt_48 rfl (lv_at hl 4 rfl) ?_
  refine lv_i2l (v := 101) hx hb dX12_spelt_49 (by decide) ?_
  refine lv_ladd hx hb dX12_spelt_50 ?_
  refine zz_topl (v := 267401) (by decide) ?_
  refine lv_ldc2 (v := 96) hx hb hown (hts _ mm_X12_spelt_2) dX12_spelt_51 ?_
  refine lv_lsub hx hb dX12_spelt_54 ?_
  refine zz_topl (v := 267305) (by decide) ?_
  refine lv_lstore (lv' := [(7, .long 267305), (0, .int 109), (1, .int 111), (2, .int 114), (3, .int 101), (4, .int 0), (5, .int 0), (6, .int 0)]) hx hb dX12_spelt_55 hl (by decide) rfl (fun ls hl => ?_)
  refine lv_iload hx hb dX12_spelt_57 (lv_at hl 5 rfl) ?_
  refine lv_if_le (tgt := 78) hx hb dX12_spelt_59 (by decide) (fun _ => ?_) (fun cc => absurd (by decide) cc)
  refine lv_iload hx hb dX12_spelt_78 (lv_at hl 6 rfl) ?_
  refine lv_if_le (tgt := 99) hx hb dX12_spelt_80 (by decide) (fun _ => ?_) (fun cc => absurd (by decide) cc)
  refine lv_iload hx hb dX12_spelt_99 (lv_at hl 7 rfl) ?_
  refine lv_if_le (tgt := 120) hx hb dX12_spelt_101 (by decide) (fun _ => ?_) (fun cc => absurd (by decide) cc)
  refine lv_lload hx hb dX12_spelt_120 (lv_at hl 0 rfl) ?_
  exact W.lret (v := 267305) hx hb hr (fun t ht hW => ⟨⟨267305, (st, sl), rfl, ⟨rfl, rfl⟩, mB.of ht hP⟩, hS.F ht⟩) hS.2.2 dX12_spelt_122
set_option maxHeartbeats 4000000 in
set_option maxRecDepth 100000 in
theorem m_wordOf4 (l : Launch) (dC : Nat → ClassId) (dI : Nat → Nat → Nat) (ar : Nat → Nat) (cy : Nat → ClassId) (sz : Nat) (hN : MN ar) (st : Nat → Nat → Int32) (sl : Nat → Nat → Int64) (hI : MI st) : Met l yX12_wordOf wsX12_wordOf ({ frames := 1, cells := 0, slots := 0, locals := 28 }) (va_Pc [.int 4] (mPre dC dI ar cy sz st sl)) (va_Ql (fun (r : Int64) (x : MT) => x = (st, sl) ∧ (r = 131360)) (mB dC dI ar cy) (MA ar sz)) 0 0 (MA ar sz) := by
  refine Met.ofW (cc := cX12_wordOf) (maxL := 1) (ret := (some .long)) (by decide) rfl ?_
  intro p e s m args below meth c s₁ B hml hv
  obtain ⟨rfl, hsz, hP, hK⟩ := hv
  have hx := B.exec
  have hb := B.bytes
  have hr := B.returns
  have hts := atoms_spec (ws := wsX12_wordOf) B.pre
  have hown : s.vm.findClass RX12 = some m.cls := findClass_of_methodNamed B.named
  subst hsz
  have hS : va_S (MA ar s.heap.size) s.heap s.heap [] := va_S.rf
  have hG : MG [1, 2, 3, 4, 5, 6, 7, 8, 9, 10, 11, 12, 13, 14, 15, 16, 17, 19, 20, 21, 22, 23] st st := MG.rf hI
  have hl := lv_entry ([.int 4]) (n := 1) (Nat.le_of_ble_eq_true rfl)
  rw [lg_entry_eq]
  generalize (lg_sl ([.int 4]) ++ List.replicate (1 - (lg_sl ([.int 4])).length) Slot.unset).toArray = ls at hl ⊢
  have hl : lv_has ls 1 [(0, .int 4)] := hl
  clear hI
  refine lv_iload_n hx hb dX12_wordOf_0 rfl (lv_at hl 0 rfl) ?_
  refine lv_tableIn (tgt := 172) hx hb dX12_wordOf_1 (by decide) (by decide) rfl (by decide) ?_
  refine lv_bipush (v := 102) hx hb dX12_wordOf_172 (by decide) ?_
  refine lv_bipush (v := 114) hx hb dX12_wordOf_174 (by decide) ?_
  refine lv_bipush (v := 101) hx hb dX12_wordOf_176 (by decide) ?_
  refine lv_bipush (v := 101) hx hb dX12_wordOf_178 (by decide) ?_
  refine lv_iconst (v := 0) hx hb dX12_wordOf_180 (by decide) ?_
  refine lv_iconst (v := 0) hx hb dX12_wordOf_181 (by decide) ?_
  refine lv_iconst (v := 0) hx hb dX12_wordOf_182 (by decide) ?_
  refine va_calll (va_runS (As := [.int 102, .int 114, .int 101, .int 101, .int 0, .int 0, .int 0]) (rest := []) ⟨hx, hb, hml, hown, hts⟩ (m_spelt_free l dC dI ar cy _ hN st sl  hG.1) (va_cwS 7 hts gX12_wordOf_X12_spelt rfl rfl rfl (by decide +kernel) ⟨Nat.le_of_ble_eq_true rfl, Nat.le_of_ble_eq_true rfl⟩) ⟨fun a U g mk q => ⟨q.1, mPre.blind q.2⟩, fun U hU hW => ⟨rfl, mPre.of hP hK hU hW⟩⟩ rfl rfl hl.1 rfl (lv_room (Nat.le_of_ble_eq_true rfl)) dX12_wordOf_183 ⟨Nat.le_of_ble_eq_true rfl, Nat.le_of_ble_eq_true rfl⟩) hS (fun q _ h => MA.le hS.1 q h) (MA.le hS.1) (fun r1 x t H locs ht hvm hw hB _ _ hS => ?_)
  have hP := mB.at ht hB
  clear hB ht hvm
  obtain ⟨rfl, hw⟩ := hw
  have hP : va_P (dC, dI) vwCl (mw ar cy st sl) _ := hP
  obtain rfl := hw
  exact W.lret (v := 131360) hx hb hr (fun t ht hW => ⟨⟨131360, (st, sl), rfl, ⟨rfl, rfl⟩, mB.of ht hP⟩, hS.F ht⟩) hS.2.2 dX12_wordOf_186
set_option maxHeartbeats 4000000 in
set_option maxRecDepth 100000 in
theorem m_wordOf14 (l : Launch) (dC : Nat → ClassId) (dI : Nat → Nat → Nat) (ar : Nat → Nat) (cy : Nat → ClassId) (sz : Nat) (hN : MN ar) (st : Nat → Nat → Int32) (sl : Nat → Nat → Int64) (hI : MI st) : Met l yX12_wordOf wsX12_wordOf ({ frames := 1, cells := 0, slots := 0, locals := 28 }) (va_Pc [.int 14] (mPre dC dI ar cy sz st sl)) (va_Ql (fun (r : Int64) (x : MT) => x = (st, sl) ∧ (r = 1111)) (mB dC dI ar cy) (MA ar sz)) 0 0 (MA ar sz) := by
  refine Met.ofW (cc := cX12_wordOf) (maxL := 1) (ret := (some .long)) (by decide) rfl ?_
  intro p e s m args below meth c s₁ B hml hv
  obtain ⟨rfl, hsz, hP, hK⟩ := hv
  have hx := B.exec
  have hb := B.bytes
  have hr := B.returns
  have hts := atoms_spec (ws := wsX12_wordOf) B.pre
  have hown : s.vm.findClass RX12 = some m.cls := findClass_of_methodNamed B.named
  subst hsz
  have hS : va_S (MA ar s.heap.size) s.heap s.heap [] := va_S.rf
  have hG : MG [1, 2, 3, 4, 5, 6, 7, 8, 9, 10, 11, 12, 13, 14, 15, 16, 17, 19, 20, 21, 22, 23] st st := MG.rf hI
  have hl := lv_entry ([.int 14]) (n := 1) (Nat.le_of_ble_eq_true rfl)
  rw [lg_entry_eq]
  generalize (lg_sl ([.int 14]) ++ List.replicate (1 - (lg_sl ([.int 14])).length) Slot.unset).toArray = ls at hl ⊢
  have hl : lv_has ls 1 [(0, .int 14)] := hl
  clear hI
  refine lv_iload_n hx hb dX12_wordOf_0 rfl (lv_at hl 0 rfl) ?_
  refine lv_tableIn (tgt := 325) hx hb dX12_wordOf_1 (by decide) (by decide) rfl (by decide) ?_
  refine lv_bipush (v := 97) hx hb dX12_wordOf_325 (by decide) ?_
  refine lv_bipush (v := 110) hx hb dX12_wordOf_327 (by decide) ?_
  refine lv_bipush (v := 100) hx hb dX12_wordOf_329 (by decide) ?_
  refine lv_iconst (v := 0) hx hb dX12_wordOf_331 (by decide) ?_
  refine lv_iconst (v := 0) hx hb dX12_wordOf_332 (by decide) ?_
  refine lv_iconst (v := 0) hx hb dX12_wordOf_333 (by decide) ?_
  refine lv_iconst (v := 0) hx hb dX12_wordOf_334 (by decide) ?_
  refine va_calll (va_runS (As := [.int 97, .int 110, .int 100, .int 0, .int 0, .int 0, .int 0]) (rest := []) ⟨hx, hb, hml, hown, hts⟩ (m_spelt_and l dC dI ar cy _ hN st sl  hG.1) (va_cwS 7 hts gX12_wordOf_X12_spelt rfl rfl rfl (by decide +kernel) ⟨Nat.le_of_ble_eq_true rfl, Nat.le_of_ble_eq_true rfl⟩) ⟨fun a U g mk q => ⟨q.1, mPre.blind q.2⟩, fun U hU hW => ⟨rfl, mPre.of hP hK hU hW⟩⟩ rfl rfl hl.1 rfl (lv_room (Nat.le_of_ble_eq_true rfl)) dX12_wordOf_335 ⟨Nat.le_of_ble_eq_true rfl, Nat.le_of_ble_eq_true rfl⟩) hS (fun q _ h => MA.le hS.1 q h) (MA.le hS.1) (fun r1 x t H locs ht hvm hw hB _ _ hS => ?_)
  have hP := mB.at ht hB
  clear hB ht hvm
  obtain ⟨rfl, hw⟩ := hw
  have hP : va_P (dC, dI) vwCl (mw ar cy st sl) _ := hP
  obtain rfl := hw
  exact W.lret (v := 1111) hx hb hr (fun t ht hW => ⟨⟨1111, (st, sl), rfl, ⟨rfl, rfl⟩, mB.of ht hP⟩, hS.F ht⟩) hS.2.2 dX12_wordOf_338
set_option maxHeartbeats 4000000 in
set_option maxRecDepth 100000 in
theorem m_writeNext1 (l : Launch) (dC : Nat → ClassId) (dI : Nat → Nat → Nat) (ar : Nat → Nat) (cy : Nat → ClassId) (sz : Nat) (hN : MN ar) (st : Nat → Nat → Int32) (sl : Nat → Nat → Int64) (vw : Int64) (gt : Nat) (hI : MI st) (h37 : st 0 37 = nI gt) (h37b : gt + 3 ≤ 64) (hw9 : vw.toInt < 729) : Met l yX12_writeNext wsX12_writeNext ({ frames := 3, cells := 0, slots := 0, locals := 65 }) (va_Pc [.ref (ar 0), .long vw] (mPre dC dI ar cy sz st sl)) (va_Qv (fun (x : MT) => MG [1, 2, 3, 4, 5, 6, 7, 8, 9, 10, 11, 12, 13, 14, 16, 17, 19, 20, 21, 22, 23] st x.1 ∧ LQ [7, 9] sl x.2 ∧ (∃ n : Nat, x.1 0 37 = nI n ∧ n ≤ gt + 3)) (mB dC dI ar cy) (MA ar sz)) 0 0 (MA ar sz) := by
  refine Met.ofW (cc := cX12_writeNext) (maxL := 3) (ret := none) (by decide) rfl ?_
  intro p e s m args below meth c s₁ B hml hv
  obtain ⟨rfl, hsz, hP, hK⟩ := hv
  have hx := B.exec
  have hb := B.bytes
  have hr := B.returns
  have hts := atoms_spec (ws := wsX12_writeNext) B.pre
  have hown : s.vm.findClass RX12 = some m.cls := findClass_of_methodNamed B.named
  subst hsz
  have hS : va_S (MA ar s.heap.size) s.heap s.heap [] := va_S.rf
  have hG : MG [1, 2, 3, 4, 5, 6, 7, 8, 9, 10, 11, 12, 13, 14, 16, 17, 19, 20, 21, 22, 23] st st := MG.rf hI
  have hl := lv_entry ([.ref (ar 0), .long vw]) (n := 3) (Nat.le_of_ble_eq_true rfl)
  rw [lg_entry_eq]
  generalize (lg_sl ([.ref (ar 0), .long vw]) ++ List.replicate (3 - (lg_sl ([.ref (ar 0), .long vw])).length) Slot.unset).toArray = ls at hl ⊢
  have hl : lv_has ls 3 [(0, .ref (ar 0)), (1, .long vw)] := hl
  clear hI
  have hL : LQ [7, 9] sl sl := LQ.rf
  refine lv_aload_n hx hb dX12_writeNext_0 rfl (lv_at hl 0 rfl) ?_
  refine lv_bipush (v := 32) hx hb dX12_writeNext_1 (by decide) ?_
  refine va_callv (va_runV (As := [.int 32]) (rest := []) ⟨hx, hb, hml, hown, hts⟩ (m_write l dC dI ar cy _ hN st sl 32 gt  hG.1 (by rw [h37]) (by omega)) (cwV 1 hts gX12_writeNext_X12_write rfl rfl rfl (by decide +kernel) ⟨Nat.le_of_ble_eq_true rfl, Nat.le_of_ble_eq_true rfl⟩) ⟨fun a U g mk q => ⟨q.1, mPre.blind q.2⟩, va_recv hK hP (ci := 11) (q0 := 0) rfl rfl, fun U hU hW => ⟨rfl, mPre.of hP hK hU hW⟩⟩ rfl rfl hl.1 rfl (lv_room (Nat.le_of_ble_eq_true rfl)) dX12_writeNext_3 ⟨Nat.le_of_ble_eq_true rfl, Nat.le_of_ble_eq_true rfl⟩) hS (fun q _ h => MA.le hS.1 q h) (MA.le hS.1) (fun x t H locs ht hvm hw hB _ _ hS => ?_)
  have hP := mB.at ht hB
  clear hB ht hvm
  obtain ⟨st2, sl3⟩ := x
  obtain ⟨hG2, hL2, hw⟩ := hw
  have hL : LQ [7, 9] sl sl3 := hL.tr hL2 (by decide)
  clear hL2
  dsimp only at hw
  have hP : va_P (dC, dI) vwCl (mw ar cy st2 sl3) _ := hP
  have hG : MG [1, 2, 3, 4, 5, 6, 7, 8, 9, 10, 11, 12, 13, 14, 16, 17, 19, 20, 21, 22, 23] st st2 := hG.tr hG2 (by decide)
  have hGst2 : MG [1, 2, 3, 4, 5, 6, 7, 8, 9, 10, 11, 12, 13, 14, 16, 17, 19, 20, 21, 22, 23] st st2 := hG2
  clear hG2
  have hf4 := hw
  refine lv_aload_n hx hb dX12_writeNext_6 rfl (lv_at hl 0 rfl) ?_
  refine lv_lload_n hx hb dX12_writeNext_7 rfl (lv_at hl 1 rfl) ?_
  refine va_callv (va_runV (As := [.long vw]) (rest := []) ⟨hx, hb, hml, hown, hts⟩ (m_writeWord1 l dC dI ar cy _ hN st2 sl3 vw (gt + 1)  hG.1 (by rw [hf4]) (by omega) (hw9)) (cwV 1 hts gX12_writeNext_X12_writeWord rfl rfl rfl (by decide +kernel) ⟨Nat.le_of_ble_eq_true rfl, Nat.le_of_ble_eq_true rfl⟩) ⟨fun a U g mk q => ⟨q.1, mPre.blind q.2⟩, va_recv hK hP (ci := 11) (q0 := 0) rfl rfl, fun U hU hW => ⟨rfl, mPre.of hP hK hU hW⟩⟩ rfl rfl hl.1 rfl (lv_room (Nat.le_of_ble_eq_true rfl)) dX12_writeNext_8 ⟨Nat.le_of_ble_eq_true rfl, Nat.le_of_ble_eq_true rfl⟩) hS (fun q _ h => MA.le hS.1 q h) (MA.le hS.1) (fun x t H locs ht hvm hw hB _ _ hS => ?_)
  have hP := mB.at ht hB
  clear hB ht hvm
  obtain ⟨st6, sl7⟩ := x
  obtain ⟨hG2, hL2, hw⟩ := hw
  have hL : LQ [7, 9] sl sl7 := hL.tr hL2 (by decide)
  clear hL2
  dsimp only at hw
  have hP : va_P (dC, dI) vwCl (mw ar cy st6 sl7) _ := hP
  have hG : MG [1, 2, 3, 4, 5, 6, 7, 8, 9, 10, 11, 12, 13, 14, 16, 17, 19, 20, 21, 22, 23] st st6 := hG.tr hG2 (by decide)
  have hGst6 : MG [1, 2, 3, 4, 5, 6, 7, 8, 9, 10, 11, 12, 13, 14, 16, 17, 19, 20, 21, 22, 23] st2 st6 := hG2
  clear hG2
  obtain ⟨n8, hf9, hf10⟩ := hw
  exact W.vret hx hb hr (fun t ht hW => ⟨⟨(st6, sl7), rfl, ⟨hG, hL, ⟨n8, by show st6 0 37 = (nI n8); rw [hf9], by omega⟩⟩, mB.of ht hP⟩, hS.F ht⟩) hS.2.2 dX12_writeNext_11
set_option maxHeartbeats 4000000 in
set_option maxRecDepth 100000 in
theorem m_writeNext2 (l : Launch) (dC : Nat → ClassId) (dI : Nat → Nat → Nat) (ar : Nat → Nat) (cy : Nat → ClassId) (sz : Nat) (hN : MN ar) (st : Nat → Nat → Int32) (sl : Nat → Nat → Int64) (vw : Int64) (gt : Nat) (hI : MI st) (h37 : st 0 37 = nI gt) (h37b : gt + 4 ≤ 64) (hw9 : vw.toInt < 19683) : Met l yX12_writeNext wsX12_writeNext ({ frames := 4, cells := 0, slots := 0, locals := 87 }) (va_Pc [.ref (ar 0), .long vw] (mPre dC dI ar cy sz st sl)) (va_Qv (fun (x : MT) => MG [1, 2, 3, 4, 5, 6, 7, 8, 9, 10, 11, 12, 13, 14, 16, 17, 19, 20, 21, 22, 23] st x.1 ∧ LQ [7, 9] sl x.2 ∧ (∃ n : Nat, x.1 0 37 = nI n ∧ n ≤ gt + 4)) (mB dC dI ar cy) (MA ar sz)) 0 0 (MA ar sz) := by
  refine Met.ofW (cc := cX12_writeNext) (maxL := 3) (ret := none) (by decide) rfl ?_
  intro p e s m args below meth c s₁ B hml hv
  obtain ⟨rfl, hsz, hP, hK⟩ := hv
  have hx := B.exec
  have hb := B.bytes
  have hr := B.returns
  have hts := atoms_spec (ws := wsX12_writeNext) B.pre
  have hown : s.vm.findClass RX12 = some m.cls := findClass_of_methodNamed B.named
  subst hsz
  have hS : va_S (MA ar s.heap.size) s.heap s.heap [] := va_S.rf
  have hG : MG [1, 2, 3, 4, 5, 6, 7, 8, 9, 10, 11, 12, 13, 14, 16, 17, 19, 20, 21, 22, 23] st st := MG.rf hI
  have hl := lv_entry ([.ref (ar 0), .long vw]) (n := 3) (Nat.le_of_ble_eq_true rfl)
  rw [lg_entry_eq]
  generalize (lg_sl ([.ref (ar 0), .long vw]) ++ List.replicate (3 - (lg_sl ([.ref (ar 0), .long vw])).length) Slot.unset).toArray = ls at hl ⊢
  have hl : lv_has ls 3 [(0, .ref (ar 0)), (1, .long vw)] := hl
  clear hI
  have hL : LQ [7, 9] sl sl := LQ.rf
  refine lv_aload_n hx hb dX12_writeNext_0 rfl (lv_at hl 0 rfl) ?_
  refine lv_bipush (v := 32) hx hb dX12_writeNext_1 (by decide) ?_
  refine va_callv (va_runV (As := [.int 32]) (rest := []) ⟨hx, hb, hml, hown, hts⟩ (m_write l dC dI ar cy _ hN st sl 32 gt  hG.1 (by rw [h37]) (by omega)) (cwV 1 hts gX12_writeNext_X12_write rfl rfl rfl (by decide +kernel) ⟨Nat.le_of_ble_eq_true rfl, Nat.le_of_ble_eq_true rfl⟩) ⟨fun a U g mk q => ⟨q.1, mPre.blind q.2⟩, va_recv hK hP (ci := 11) (q0 := 0) rfl rfl, fun U hU hW => ⟨rfl, mPre.of hP hK hU hW⟩⟩ rfl rfl hl.1 rfl (lv_room (Nat.le_of_ble_eq_true rfl)) dX12_writeNext_3 ⟨Nat.le_of_ble_eq_true rfl, Nat.le_of_ble_eq_true rfl⟩) hS (fun q _ h => MA.le hS.1 q h) (MA.le hS.1) (fun x t H locs ht hvm hw hB _ _ hS => ?_)
  have hP := mB.at ht hB
  clear hB ht hvm
  obtain ⟨st2, sl3⟩ := x
  obtain ⟨hG2, hL2, hw⟩ := hw
  have hL : LQ [7, 9] sl sl3 := hL.tr hL2 (by decide)
  clear hL2
  dsimp only at hw
  have hP : va_P (dC, dI) vwCl (mw ar cy st2 sl3) _ := hP
  have hG : MG [1, 2, 3, 4, 5, 6, 7, 8, 9, 10, 11, 12, 13, 14, 16, 17, 19, 20, 21, 22, 23] st st2 := hG.tr hG2 (by decide)
  have hGst2 : MG [1, 2, 3, 4, 5, 6, 7, 8, 9, 10, 11, 12, 13, 14, 16, 17, 19, 20, 21, 22, 23] st st2 := hG2
  clear hG2
  have hf4 := hw
  refine lv_aload_n hx hb dX12_writeNext_6 rfl (lv_at hl 0 rfl) ?_
  refine lv_lload_n hx hb dX12_writeNext_7 rfl (lv_at hl 1 rfl) ?_
  refine va_callv (va_runV (As := [.long vw]) (rest := []) ⟨hx, hb, hml, hown, hts⟩ (m_writeWord2 l dC dI ar cy _ hN st2 sl3 vw (gt + 1)  hG.1 (by rw [hf4]) (by omega) (hw9)) (cwV 1 hts gX12_writeNext_X12_writeWord rfl rfl rfl (by decide +kernel) ⟨Nat.le_of_ble_eq_true rfl, Nat.le_of_ble_eq_true rfl⟩) ⟨fun a U g mk q => ⟨q.1, mPre.blind q.2⟩, va_recv hK hP (ci := 11) (q0 := 0) rfl rfl, fun U hU hW => ⟨rfl, mPre.of hP hK hU hW⟩⟩ rfl rfl hl.1 rfl (lv_room (Nat.le_of_ble_eq_true rfl)) dX12_writeNext_8 ⟨Nat.le_of_ble_eq_true rfl, Nat.le_of_ble_eq_true rfl⟩) hS (fun q _ h => MA.le hS.1 q h) (MA.le hS.1) (fun x t H locs ht hvm hw hB _ _ hS => ?_)
  have hP := mB.at ht hB
  clear hB ht hvm
  obtain ⟨st6, sl7⟩ := x
  obtain ⟨hG2, hL2, hw⟩ := hw
  have hL : LQ [7, 9] sl sl7 := hL.tr hL2 (by decide)
  clear hL2
  dsimp only at hw
  have hP : va_P (dC, dI) vwCl (mw ar cy st6 sl7) _ := hP
  have hG : MG [1, 2, 3, 4, 5, 6, 7, 8, 9, 10, 11, 12, 13, 14, 16, 17, 19, 20, 21, 22, 23] st st6 := hG.tr hG2 (by decide)
  have hGst6 : MG [1, 2, 3, 4, 5, 6, 7, 8, 9, 10, 11, 12, 13, 14, 16, 17, 19, 20, 21, 22, 23] st2 st6 := hG2
  clear hG2
  obtain ⟨n8, hf9, hf10⟩ := hw
  exact W.vret hx hb hr (fun t ht hW => ⟨⟨(st6, sl7), rfl, ⟨hG, hL, ⟨n8, by show st6 0 37 = (nI n8); rw [hf9], by omega⟩⟩, mB.of ht hP⟩, hS.F ht⟩) hS.2.2 dX12_writeNext_11
set_option maxHeartbeats 4000000 in
set_option maxRecDepth 100000 in
theorem m_writeNext3 (l : Launch) (dC : Nat → ClassId) (dI : Nat → Nat → Nat) (ar : Nat → Nat) (cy : Nat → ClassId) (sz : Nat) (hN : MN ar) (st : Nat → Nat → Int32) (sl : Nat → Nat → Int64) (vw : Int64) (gt : Nat) (hI : MI st) (h37 : st 0 37 = nI gt) (h37b : gt + 5 ≤ 64) (hw9 : vw.toInt < 531441) : Met l yX12_writeNext wsX12_writeNext ({ frames := 5, cells := 0, slots := 0, locals := 109 }) (va_Pc [.ref (ar 0), .long vw] (mPre dC dI ar cy sz st sl)) (va_Qv (fun (x : MT) => MG [1, 2, 3, 4, 5, 6, 7, 8, 9, 10, 11, 12, 13, 14, 16, 17, 19, 20, 21, 22, 23] st x.1 ∧ LQ [7, 9] sl x.2 ∧ (∃ n : Nat, x.1 0 37 = nI n ∧ n ≤ gt + 5)) (mB dC dI ar cy) (MA ar sz)) 0 0 (MA ar sz) := by
  refine Met.ofW (cc := cX12_writeNext) (maxL := 3) (ret := none) (by decide) rfl ?_
  intro p e s m args below meth c s₁ B hml hv
  obtain ⟨rfl, hsz, hP, hK⟩ := hv
  have hx := B.exec
  have hb := B.bytes
  have hr := B.returns
  have hts := atoms_spec (ws := wsX12_writeNext) B.pre
  have hown : s.vm.findClass RX12 = some m.cls := findClass_of_methodNamed B.named
  subst hsz
  have hS : va_S (MA ar s.heap.size) s.heap s.heap [] := va_S.rf
  have hG : MG [1, 2, 3, 4, 5, 6, 7, 8, 9, 10, 11, 12, 13, 14, 16, 17, 19, 20, 21, 22, 23] st st := MG.rf hI
  have hl := lv_entry ([.ref (ar 0), .long vw]) (n := 3) (Nat.le_of_ble_eq_true rfl)
  rw [lg_entry_eq]
  generalize (lg_sl ([.ref (ar 0), .long vw]) ++ List.replicate (3 - (lg_sl ([.ref (ar 0), .long vw])).length) Slot.unset).toArray = ls at hl ⊢
  have hl : lv_has ls 3 [(0, .ref (ar 0)), (1, .long vw)] := hl
  clear hI
  have hL : LQ [7, 9] sl sl := LQ.rf
  refine lv_aload_n hx hb dX12_writeNext_0 rfl (lv_at hl 0 rfl) ?_
  refine lv_bipush (v := 32) hx hb dX12_writeNext_1 (by decide) ?_
  refine va_callv (va_runV (As := [.int 32]) (rest := []) ⟨hx, hb, hml, hown, hts⟩ (m_write l dC dI ar cy _ hN st sl 32 gt  hG.1 (by rw [h37]) (by omega)) (cwV 1 hts gX12_writeNext_X12_write rfl rfl rfl (by decide +kernel) ⟨Nat.le_of_ble_eq_true rfl, Nat.le_of_ble_eq_true rfl⟩) ⟨fun a U g mk q => ⟨q.1, mPre.blind q.2⟩, va_recv hK hP (ci := 11) (q0 := 0) rfl rfl, fun U hU hW => ⟨rfl, mPre.of hP hK hU hW⟩⟩ rfl rfl hl.1 rfl (lv_room (Nat.le_of_ble_eq_true rfl)) dX12_writeNext_3 ⟨Nat.le_of_ble_eq_true rfl, Nat.le_of_ble_eq_true rfl⟩) hS (fun q _ h => MA.le hS.1 q h) (MA.le hS.1) (fun x t H locs ht hvm hw hB _ _ hS => ?_)
  have hP := mB.at ht hB
  clear hB ht hvm
  obtain ⟨st2, sl3⟩ := x
  obtain ⟨hG2, hL2, hw⟩ := hw
  have hL : LQ [7, 9] sl sl3 := hL.tr hL2 (by decide)
  clear hL2
  dsimp only at hw
  have hP : va_P (dC, dI) vwCl (mw ar cy st2 sl3) _ := hP
  have hG : MG [1, 2, 3, 4, 5, 6, 7, 8, 9, 10, 11, 12, 13, 14, 16, 17, 19, 20, 21, 22, 23] st st2 := hG.tr hG2 (by decide)
  have hGst2 : MG [1, 2, 3, 4, 5, 6, 7, 8, 9, 10, 11, 12, 13, 14, 16, 17, 19, 20, 21, 22, 23] st st2 := hG2
  clear hG2
  have hf4 := hw
  refine lv_aload_n hx hb dX12_writeNext_6 rfl (lv_at hl 0 rfl) ?_
  refine lv_lload_n hx hb dX12_writeNext_7 rfl (lv_at hl 1 rfl) ?_
  refine va_callv (va_runV (As := [.long vw]) (rest := []) ⟨hx, hb, hml, hown, hts⟩ (m_writeWord3 l dC dI ar cy _ hN st2 sl3 vw (gt + 1)  hG.1 (by rw [hf4]) (by omega) (hw9)) (cwV 1 hts gX12_writeNext_X12_writeWord rfl rfl rfl (by decide +kernel) ⟨Nat.le_of_ble_eq_true rfl, Nat.le_of_ble_eq_true rfl⟩) ⟨fun a U g mk q => ⟨q.1, mPre.blind q.2⟩, va_recv hK hP (ci := 11) (q0 := 0) rfl rfl, fun U hU hW => ⟨rfl, mPre.of hP hK hU hW⟩⟩ rfl rfl hl.1 rfl (lv_room (Nat.le_of_ble_eq_true rfl)) dX12_writeNext_8 ⟨Nat.le_of_ble_eq_true rfl, Nat.le_of_ble_eq_true rfl⟩) hS (fun q _ h => MA.le hS.1 q h) (MA.le hS.1) (fun x t H locs ht hvm hw hB _ _ hS => ?_)
  have hP := mB.at ht hB
  clear hB ht hvm
  obtain ⟨st6, sl7⟩ := x
  obtain ⟨hG2, hL2, hw⟩ := hw
  have hL : LQ [7, 9] sl sl7 := hL.tr hL2 (by decide)
  clear hL2
  dsimp only at hw
  have hP : va_P (dC, dI) vwCl (mw ar cy st6 sl7) _ := hP
  have hG : MG [1, 2, 3, 4, 5, 6, 7, 8, 9, 10, 11, 12, 13, 14, 16, 17, 19, 20, 21, 22, 23] st st6 := hG.tr hG2 (by decide)
  have hGst6 : MG [1, 2, 3, 4, 5, 6, 7, 8, 9, 10, 11, 12, 13, 14, 16, 17, 19, 20, 21, 22, 23] st2 st6 := hG2
  clear hG2
  obtain ⟨n8, hf9, hf10⟩ := hw
  exact W.vret hx hb hr (fun t ht hW => ⟨⟨(st6, sl7), rfl, ⟨hG, hL, ⟨n8, by show st6 0 37 = (nI n8); rw [hf9], by omega⟩⟩, mB.of ht hP⟩, hS.F ht⟩) hS.2.2 dX12_writeNext_11
set_option maxHeartbeats 4000000 in
set_option maxRecDepth 100000 in
theorem m_hasB (l : Launch) (dC : Nat → ClassId) (dI : Nat → Nat → Nat) (ar : Nat → Nat) (cy : Nat → ClassId) (sz : Nat) (hN : MN ar) (st : Nat → Nat → Int32) (sl : Nat → Nat → Int64) (va : Int32) (vb : Nat) (hvb : vb < 32) (hI : MI st) : Met l yX12_has wsX12_has ({ frames := 0, cells := 0, slots := 0, locals := 0 }) (va_Pc [.int va, .int (nI vb)] (mPre dC dI ar cy sz st sl)) (va_Qi (fun (r : Int32) (x : MT) => x = (st, sl) ∧ ((r = 1 ∧ bt va vb = true) ∨ (r = 0 ∧ bt va vb = false))) (mB dC dI ar cy) (MA ar sz)) 0 0 (MA ar sz) := by
  refine Met.ofW (cc := cX12_has) (maxL := 2) (ret := (some .boolean)) (by decide) rfl ?_
  intro p e s m args below meth c s₁ B hml hv
  obtain ⟨rfl, hsz, hP, hK⟩ := hv
  have hx := B.exec
  have hb := B.bytes
  have hr := B.returns
  have hts := atoms_spec (ws := wsX12_has) B.pre
  have hown : s.vm.findClass RX12 = some m.cls := findClass_of_methodNamed B.named
  subst hsz
  have hS : va_S (MA ar s.heap.size) s.heap s.heap [] := va_S.rf
  have hG : MG [1, 2, 3, 4, 5, 6, 7, 8, 9, 10, 11, 12, 13, 14, 15, 16, 17, 19, 20, 21, 22, 23] st st := MG.rf hI
  have hl := lv_entry ([.int va, .int (nI vb)]) (n := 2) (Nat.le_of_ble_eq_true rfl)
  rw [lg_entry_eq]
  generalize (lg_sl ([.int va, .int (nI vb)]) ++ List.replicate (2 - (lg_sl ([.int va, .int (nI vb)])).length) Slot.unset).toArray = ls at hl ⊢
  have hl : lv_has ls 2 [(0, .int va), (1, .int (nI vb))] := hl
  clear hI
  refine lv_iload_n hx hb dX12_has_0 rfl (lv_at hl 0 rfl) ?_
  refine lv_iload_n hx hb dX12_has_1 rfl (lv_at hl 1 rfl) ?_
  refine lv_ishr hx hb dX12_has_2 ?_
  refine lv_topi (fun z1 ez1 => ?_)
  refine lv_iconst (v := 1) hx hb dX12_has_3 (by decide) ?_
  refine lv_iand hx hb dX12_has_4 ?_
  refine lv_topi (fun z2 ez2 => ?_)
  refine lv_iconst (v := 1) hx hb dX12_has_5 (by decide) ?_
  refine lv_icmp_ne (tgt := 13) hx hb dX12_has_6 (by decide) (fun c1 => ?_) (fun c1 => ?_)
  · refine lv_iconst (v := 0) hx hb dX12_has_13 (by decide) ?_
    exact W.zret (v := 0) hx hb hr rfl (fun t ht hW => ⟨⟨0, (st, sl), rfl, ⟨rfl, Or.inr ⟨rfl, Bool.eq_false_iff.mpr (fun hh => c1 ((has_b hvb ez1 ez2).mpr hh))⟩⟩, mB.of ht hP⟩, hS.F ht⟩) hS.2.2 dX12_has_14
  · refine lv_iconst (v := 1) hx hb dX12_has_9 (by decide) ?_
    refine lv_goto (tgt := 14) hx hb dX12_has_10 (by decide) ?_
    exact W.zret (v := 1) hx hb hr rfl (fun t ht hW => ⟨⟨1, (st, sl), rfl, ⟨rfl, Or.inl ⟨rfl, (has_b hvb ez1 ez2).mp c1⟩⟩, mB.of ht hP⟩, hS.F ht⟩) hS.2.2 dX12_has_14
