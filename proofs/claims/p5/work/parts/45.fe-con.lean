set_option maxHeartbeats 4000000 in
set_option maxRecDepth 100000 in
theorem f_wordOf14 (l : Launch) (dC : Nat → ClassId) (dI : Nat → Nat → Nat) (ar : Nat → Nat) (cy : Nat → ClassId) (sz : Nat) (hN : MN ar) (st : Nat → Nat → Int32) (sl : Nat → Nat → Int64) (hI : MI st) : Met l yX12_wordOf wsX12_wordOf ({ frames := 1, cells := 0, slots := 0, locals := 28 }) (va_Pc [.int 14] (mPre dC dI ar cy sz st sl)) (va_Ql (fun (r : Int64) (x : MT) => x = (st, sl) ∧ (r = 1111)) (mB dC dI ar cy) (MA ar sz)) 0 0 (MA ar sz) := by
  refine Met.ofW (cc := cX12_wordOf) (maxL := 1) (ret := (some .long)) (by decide) rfl ?_
  intro p9 e s m9 args below meth c9 s₁ B9 hml hv
  obtain ⟨rfl, hsz, hP, hK⟩ := hv
  have hx := B9.exec
  have hb := B9.bytes
  have hr := B9.returns
  have hts := atoms_spec (ws := wsX12_wordOf) B9.pre
  have hown : s.vm.findClass RX12 = some m9.cls := findClass_of_methodNamed B9.named
  subst hsz
  have hS : va_S (MA ar s.heap.size) s.heap s.heap [] := va_S.rf
  have hG : MG [1, 2, 3, 4, 5, 6, 7, 8, 9, 10, 11, 12, 13, 14, 15, 16, 17, 19, 20, 21, 22, 23] st st := MG.rf hI
  have hl := lv_entry ([.int 14]) (n := 1) (Nat.le_of_ble_eq_true rfl)
  rw [lg_entry_eq]
  generalize (lg_sl ([.int 14]) ++ List.replicate (1 - (lg_sl ([.int 14])).length) Slot.unset).toArray = ls at hl ⊢
  have hl : lv_has ls 1 [(0, .int 14)] := hl
  clear hI
  refine lv_iload_n hx hb dX12_wordOf_0 rfl (lv_at hl 0 rfl) ?_
  refine lv_tableIn (tgt := 325) hx hb dX12_wordOf_1 (by decide) (by decide) rfl (by decide) ?_
  refine lv_bipush (v := 97) hx hb dX12_wordOf_325 (by decide) ?_
  refine lv_bipush (v := 110) hx hb dX12_wordOf_327 (by decide) ?_
  refine lv_bipush (v := 100) hx hb dX12_wordOf_329 (by decide) ?_
  refine lv_iconst (v := 0) hx hb dX12_wordOf_331 (by decide) ?_
  refine lv_iconst (v := 0) hx hb dX12_wordOf_332 (by decide) ?_
  refine lv_iconst (v := 0) hx hb dX12_wordOf_333 (by decide) ?_
  refine lv_iconst (v := 0) hx hb dX12_wordOf_334 (by decide) ?_
  refine va_calll (va_runS (As := [.int 97, .int 110, .int 100, .int 0, .int 0, .int 0, .int 0]) (rest := []) ⟨hx, hb, hml, hown, hts⟩ (f_spelt14 l dC dI ar cy _ hN st sl hG.1 ) (va_cwS 7 hts gX12_wordOf_X12_spelt rfl rfl rfl (by decide +kernel) ⟨Nat.le_of_ble_eq_true rfl, Nat.le_of_ble_eq_true rfl⟩) ⟨fun a U g mk q => ⟨q.1, mPre.blind q.2⟩, fun U hU hW => ⟨rfl, mPre.of hP hK hU hW⟩⟩ rfl rfl hl.1 rfl (lv_room (Nat.le_of_ble_eq_true rfl)) dX12_wordOf_335 ⟨Nat.le_of_ble_eq_true rfl, Nat.le_of_ble_eq_true rfl⟩) hS (fun q _ h => MA.le hS.1 q h) (MA.le hS.1) (fun r1 x t H locs ht hvm hw hB9 _ _ hS => ?_)
  have hP := mB.at ht hB9
  clear hB9 ht hvm
  obtain ⟨rfl, hw⟩ := hw
  have hP : va_P (dC, dI) vwCl (mw ar cy st sl) _ := hP
  obtain rfl := hw
  exact W.lret (v := 1111) hx hb hr (fun t ht hW => ⟨⟨1111, (st, sl), rfl, ⟨rfl, rfl⟩, mB.of ht hP⟩, hS.F ht⟩) hS.2.2 dX12_wordOf_338
set_option maxHeartbeats 4000000 in
set_option maxRecDepth 100000 in
theorem f_wordOf15 (l : Launch) (dC : Nat → ClassId) (dI : Nat → Nat → Nat) (ar : Nat → Nat) (cy : Nat → ClassId) (sz : Nat) (hN : MN ar) (st : Nat → Nat → Int32) (sl : Nat → Nat → Int64) (hI : MI st) : Met l yX12_wordOf wsX12_wordOf ({ frames := 1, cells := 0, slots := 0, locals := 28 }) (va_Pc [.int 15] (mPre dC dI ar cy sz st sl)) (va_Ql (fun (r : Int64) (x : MT) => x = (st, sl) ∧ (r = 10631)) (mB dC dI ar cy) (MA ar sz)) 0 0 (MA ar sz) := by
  refine Met.ofW (cc := cX12_wordOf) (maxL := 1) (ret := (some .long)) (by decide) rfl ?_
  intro p9 e s m9 args below meth c9 s₁ B9 hml hv
  obtain ⟨rfl, hsz, hP, hK⟩ := hv
  have hx := B9.exec
  have hb := B9.bytes
  have hr := B9.returns
  have hts := atoms_spec (ws := wsX12_wordOf) B9.pre
  have hown : s.vm.findClass RX12 = some m9.cls := findClass_of_methodNamed B9.named
  subst hsz
  have hS : va_S (MA ar s.heap.size) s.heap s.heap [] := va_S.rf
  have hG : MG [1, 2, 3, 4, 5, 6, 7, 8, 9, 10, 11, 12, 13, 14, 15, 16, 17, 19, 20, 21, 22, 23] st st := MG.rf hI
  have hl := lv_entry ([.int 15]) (n := 1) (Nat.le_of_ble_eq_true rfl)
  rw [lg_entry_eq]
  generalize (lg_sl ([.int 15]) ++ List.replicate (1 - (lg_sl ([.int 15])).length) Slot.unset).toArray = ls at hl ⊢
  have hl : lv_has ls 1 [(0, .int 15)] := hl
  clear hI
  refine lv_iload_n hx hb dX12_wordOf_0 rfl (lv_at hl 0 rfl) ?_
  refine lv_tableIn (tgt := 339) hx hb dX12_wordOf_1 (by decide) (by decide) rfl (by decide) ?_
  refine lv_bipush (v := 110) hx hb dX12_wordOf_339 (by decide) ?_
  refine lv_bipush (v := 111) hx hb dX12_wordOf_341 (by decide) ?_
  refine lv_bipush (v := 116) hx hb dX12_wordOf_343 (by decide) ?_
  refine lv_iconst (v := 0) hx hb dX12_wordOf_345 (by decide) ?_
  refine lv_iconst (v := 0) hx hb dX12_wordOf_346 (by decide) ?_
  refine lv_iconst (v := 0) hx hb dX12_wordOf_347 (by decide) ?_
  refine lv_iconst (v := 0) hx hb dX12_wordOf_348 (by decide) ?_
  refine va_calll (va_runS (As := [.int 110, .int 111, .int 116, .int 0, .int 0, .int 0, .int 0]) (rest := []) ⟨hx, hb, hml, hown, hts⟩ (f_spelt15 l dC dI ar cy _ hN st sl hG.1 ) (va_cwS 7 hts gX12_wordOf_X12_spelt rfl rfl rfl (by decide +kernel) ⟨Nat.le_of_ble_eq_true rfl, Nat.le_of_ble_eq_true rfl⟩) ⟨fun a U g mk q => ⟨q.1, mPre.blind q.2⟩, fun U hU hW => ⟨rfl, mPre.of hP hK hU hW⟩⟩ rfl rfl hl.1 rfl (lv_room (Nat.le_of_ble_eq_true rfl)) dX12_wordOf_349 ⟨Nat.le_of_ble_eq_true rfl, Nat.le_of_ble_eq_true rfl⟩) hS (fun q _ h => MA.le hS.1 q h) (MA.le hS.1) (fun r1 x t H locs ht hvm hw hB9 _ _ hS => ?_)
  have hP := mB.at ht hB9
  clear hB9 ht hvm
  obtain ⟨rfl, hw⟩ := hw
  have hP : va_P (dC, dI) vwCl (mw ar cy st sl) _ := hP
  obtain rfl := hw
  exact W.lret (v := 10631) hx hb hr (fun t ht hW => ⟨⟨10631, (st, sl), rfl, ⟨rfl, rfl⟩, mB.of ht hP⟩, hS.F ht⟩) hS.2.2 dX12_wordOf_352
set_option maxHeartbeats 4000000 in
set_option maxRecDepth 100000 in
theorem f_wordOf16 (l : Launch) (dC : Nat → ClassId) (dI : Nat → Nat → Nat) (ar : Nat → Nat) (cy : Nat → ClassId) (sz : Nat) (hN : MN ar) (st : Nat → Nat → Int32) (sl : Nat → Nat → Int64) (hI : MI st) : Met l yX12_wordOf wsX12_wordOf ({ frames := 1, cells := 0, slots := 0, locals := 28 }) (va_Pc [.int 16] (mPre dC dI ar cy sz st sl)) (va_Ql (fun (r : Int64) (x : MT) => x = (st, sl) ∧ (r = 36502)) (mB dC dI ar cy) (MA ar sz)) 0 0 (MA ar sz) := by
  refine Met.ofW (cc := cX12_wordOf) (maxL := 1) (ret := (some .long)) (by decide) rfl ?_
  intro p9 e s m9 args below meth c9 s₁ B9 hml hv
  obtain ⟨rfl, hsz, hP, hK⟩ := hv
  have hx := B9.exec
  have hb := B9.bytes
  have hr := B9.returns
  have hts := atoms_spec (ws := wsX12_wordOf) B9.pre
  have hown : s.vm.findClass RX12 = some m9.cls := findClass_of_methodNamed B9.named
  subst hsz
  have hS : va_S (MA ar s.heap.size) s.heap s.heap [] := va_S.rf
  have hG : MG [1, 2, 3, 4, 5, 6, 7, 8, 9, 10, 11, 12, 13, 14, 15, 16, 17, 19, 20, 21, 22, 23] st st := MG.rf hI
  have hl := lv_entry ([.int 16]) (n := 1) (Nat.le_of_ble_eq_true rfl)
  rw [lg_entry_eq]
  generalize (lg_sl ([.int 16]) ++ List.replicate (1 - (lg_sl ([.int 16])).length) Slot.unset).toArray = ls at hl ⊢
  have hl : lv_has ls 1 [(0, .int 16)] := hl
  clear hI
  refine lv_iload_n hx hb dX12_wordOf_0 rfl (lv_at hl 0 rfl) ?_
  refine lv_tableIn (tgt := 353) hx hb dX12_wordOf_1 (by decide) (by decide) rfl (by decide) ?_
  refine lv_bipush (v := 97) hx hb dX12_wordOf_353 (by decide) ?_
  refine lv_bipush (v := 119) hx hb dX12_wordOf_355 (by decide) ?_
  refine lv_bipush (v := 97) hx hb dX12_wordOf_357 (by decide) ?_
  refine lv_bipush (v := 121) hx hb dX12_wordOf_359 (by decide) ?_
  refine lv_iconst (v := 0) hx hb dX12_wordOf_361 (by decide) ?_
  refine lv_iconst (v := 0) hx hb dX12_wordOf_362 (by decide) ?_
  refine lv_iconst (v := 0) hx hb dX12_wordOf_363 (by decide) ?_
  refine va_calll (va_runS (As := [.int 97, .int 119, .int 97, .int 121, .int 0, .int 0, .int 0]) (rest := []) ⟨hx, hb, hml, hown, hts⟩ (f_spelt16 l dC dI ar cy _ hN st sl hG.1 ) (va_cwS 7 hts gX12_wordOf_X12_spelt rfl rfl rfl (by decide +kernel) ⟨Nat.le_of_ble_eq_true rfl, Nat.le_of_ble_eq_true rfl⟩) ⟨fun a U g mk q => ⟨q.1, mPre.blind q.2⟩, fun U hU hW => ⟨rfl, mPre.of hP hK hU hW⟩⟩ rfl rfl hl.1 rfl (lv_room (Nat.le_of_ble_eq_true rfl)) dX12_wordOf_364 ⟨Nat.le_of_ble_eq_true rfl, Nat.le_of_ble_eq_true rfl⟩) hS (fun q _ h => MA.le hS.1 q h) (MA.le hS.1) (fun r1 x t H locs ht hvm hw hB9 _ _ hS => ?_)
  have hP := mB.at ht hB9
  clear hB9 ht hvm
  obtain ⟨rfl, hw⟩ := hw
  have hP : va_P (dC, dI) vwCl (mw ar cy st sl) _ := hP
  obtain rfl := hw
  exact W.lret (v := 36502) hx hb hr (fun t ht hW => ⟨⟨36502, (st, sl), rfl, ⟨rfl, rfl⟩, mB.of ht hP⟩, hS.F ht⟩) hS.2.2 dX12_wordOf_367
set_option maxHeartbeats 4000000 in
set_option maxRecDepth 100000 in
theorem f_wordOf17 (l : Launch) (dC : Nat → ClassId) (dI : Nat → Nat → Nat) (ar : Nat → Nat) (cy : Nat → ClassId) (sz : Nat) (hN : MN ar) (st : Nat → Nat → Int32) (sl : Nat → Nat → Int64) (hI : MI st) : Met l yX12_wordOf wsX12_wordOf ({ frames := 1, cells := 0, slots := 0, locals := 28 }) (va_Pc [.int 17] (mPre dC dI ar cy sz st sl)) (va_Ql (fun (r : Int64) (x : MT) => x = (st, sl) ∧ (r = 8434683)) (mB dC dI ar cy) (MA ar sz)) 0 0 (MA ar sz) := by
  refine Met.ofW (cc := cX12_wordOf) (maxL := 1) (ret := (some .long)) (by decide) rfl ?_
  intro p9 e s m9 args below meth c9 s₁ B9 hml hv
  obtain ⟨rfl, hsz, hP, hK⟩ := hv
  have hx := B9.exec
  have hb := B9.bytes
  have hr := B9.returns
  have hts := atoms_spec (ws := wsX12_wordOf) B9.pre
  have hown : s.vm.findClass RX12 = some m9.cls := findClass_of_methodNamed B9.named
  subst hsz
  have hS : va_S (MA ar s.heap.size) s.heap s.heap [] := va_S.rf
  have hG : MG [1, 2, 3, 4, 5, 6, 7, 8, 9, 10, 11, 12, 13, 14, 15, 16, 17, 19, 20, 21, 22, 23] st st := MG.rf hI
  have hl := lv_entry ([.int 17]) (n := 1) (Nat.le_of_ble_eq_true rfl)
  rw [lg_entry_eq]
  generalize (lg_sl ([.int 17]) ++ List.replicate (1 - (lg_sl ([.int 17])).length) Slot.unset).toArray = ls at hl ⊢
  have hl : lv_has ls 1 [(0, .int 17)] := hl
  clear hI
  refine lv_iload_n hx hb dX12_wordOf_0 rfl (lv_at hl 0 rfl) ?_
  refine lv_tableIn (tgt := 368) hx hb dX12_wordOf_1 (by decide) (by decide) rfl (by decide) ?_
  refine lv_bipush (v := 111) hx hb dX12_wordOf_368 (by decide) ?_
  refine lv_bipush (v := 119) hx hb dX12_wordOf_370 (by decide) ?_
  refine lv_bipush (v := 110) hx hb dX12_wordOf_372 (by decide) ?_
  refine lv_bipush (v := 101) hx hb dX12_wordOf_374 (by decide) ?_
  refine lv_bipush (v := 114) hx hb dX12_wordOf_376 (by decide) ?_
  refine lv_iconst (v := 0) hx hb dX12_wordOf_378 (by decide) ?_
  refine lv_iconst (v := 0) hx hb dX12_wordOf_379 (by decide) ?_
  refine va_calll (va_runS (As := [.int 111, .int 119, .int 110, .int 101, .int 114, .int 0, .int 0]) (rest := []) ⟨hx, hb, hml, hown, hts⟩ (f_spelt17 l dC dI ar cy _ hN st sl hG.1 ) (va_cwS 7 hts gX12_wordOf_X12_spelt rfl rfl rfl (by decide +kernel) ⟨Nat.le_of_ble_eq_true rfl, Nat.le_of_ble_eq_true rfl⟩) ⟨fun a U g mk q => ⟨q.1, mPre.blind q.2⟩, fun U hU hW => ⟨rfl, mPre.of hP hK hU hW⟩⟩ rfl rfl hl.1 rfl (lv_room (Nat.le_of_ble_eq_true rfl)) dX12_wordOf_380 ⟨Nat.le_of_ble_eq_true rfl, Nat.le_of_ble_eq_true rfl⟩) hS (fun q _ h => MA.le hS.1 q h) (MA.le hS.1) (fun r1 x t H locs ht hvm hw hB9 _ _ hS => ?_)
  have hP := mB.at ht hB9
  clear hB9 ht hvm
  obtain ⟨rfl, hw⟩ := hw
  have hP : va_P (dC, dI) vwCl (mw ar cy st sl) _ := hP
  obtain rfl := hw
  exact W.lret (v := 8434683) hx hb hr (fun t ht hW => ⟨⟨8434683, (st, sl), rfl, ⟨rfl, rfl⟩, mB.of ht hP⟩, hS.F ht⟩) hS.2.2 dX12_wordOf_383
set_option maxHeartbeats 4000000 in
set_option maxRecDepth 100000 in
theorem f_wordOf18 (l : Launch) (dC : Nat → ClassId) (dI : Nat → Nat → Nat) (ar : Nat → Nat) (cy : Nat → ClassId) (sz : Nat) (hN : MN ar) (st : Nat → Nat → Int32) (sl : Nat → Nat → Int64) (hI : MI st) : Met l yX12_wordOf wsX12_wordOf ({ frames := 1, cells := 0, slots := 0, locals := 28 }) (va_Pc [.int 18] (mPre dC dI ar cy sz st sl)) (va_Ql (fun (r : Int64) (x : MT) => x = (st, sl) ∧ (r = 7011352)) (mB dC dI ar cy) (MA ar sz)) 0 0 (MA ar sz) := by
  refine Met.ofW (cc := cX12_wordOf) (maxL := 1) (ret := (some .long)) (by decide) rfl ?_
  intro p9 e s m9 args below meth c9 s₁ B9 hml hv
  obtain ⟨rfl, hsz, hP, hK⟩ := hv
  have hx := B9.exec
  have hb := B9.bytes
  have hr := B9.returns
  have hts := atoms_spec (ws := wsX12_wordOf) B9.pre
  have hown : s.vm.findClass RX12 = some m9.cls := findClass_of_methodNamed B9.named
  subst hsz
  have hS : va_S (MA ar s.heap.size) s.heap s.heap [] := va_S.rf
  have hG : MG [1, 2, 3, 4, 5, 6, 7, 8, 9, 10, 11, 12, 13, 14, 15, 16, 17, 19, 20, 21, 22, 23] st st := MG.rf hI
  have hl := lv_entry ([.int 18]) (n := 1) (Nat.le_of_ble_eq_true rfl)
  rw [lg_entry_eq]
  generalize (lg_sl ([.int 18]) ++ List.replicate (1 - (lg_sl ([.int 18])).length) Slot.unset).toArray = ls at hl ⊢
  have hl : lv_has ls 1 [(0, .int 18)] := hl
  clear hI
  refine lv_iload_n hx hb dX12_wordOf_0 rfl (lv_at hl 0 rfl) ?_
  refine lv_tableIn (tgt := 384) hx hb dX12_wordOf_1 (by decide) (by decide) rfl (by decide) ?_
  refine lv_bipush (v := 109) hx hb dX12_wordOf_384 (by decide) ?_
  refine lv_bipush (v := 101) hx hb dX12_wordOf_386 (by decide) ?_
  refine lv_bipush (v := 101) hx hb dX12_wordOf_388 (by decide) ?_
  refine lv_bipush (v := 116) hx hb dX12_wordOf_390 (by decide) ?_
  refine lv_bipush (v := 115) hx hb dX12_wordOf_392 (by decide) ?_
  refine lv_iconst (v := 0) hx hb dX12_wordOf_394 (by decide) ?_
  refine lv_iconst (v := 0) hx hb dX12_wordOf_395 (by decide) ?_
  refine va_calll (va_runS (As := [.int 109, .int 101, .int 101, .int 116, .int 115, .int 0, .int 0]) (rest := []) ⟨hx, hb, hml, hown, hts⟩ (f_spelt18 l dC dI ar cy _ hN st sl hG.1 ) (va_cwS 7 hts gX12_wordOf_X12_spelt rfl rfl rfl (by decide +kernel) ⟨Nat.le_of_ble_eq_true rfl, Nat.le_of_ble_eq_true rfl⟩) ⟨fun a U g mk q => ⟨q.1, mPre.blind q.2⟩, fun U hU hW => ⟨rfl, mPre.of hP hK hU hW⟩⟩ rfl rfl hl.1 rfl (lv_room (Nat.le_of_ble_eq_true rfl)) dX12_wordOf_396 ⟨Nat.le_of_ble_eq_true rfl, Nat.le_of_ble_eq_true rfl⟩) hS (fun q _ h => MA.le hS.1 q h) (MA.le hS.1) (fun r1 x t H locs ht hvm hw hB9 _ _ hS => ?_)
  have hP := mB.at ht hB9
  clear hB9 ht hvm
  obtain ⟨rfl, hw⟩ := hw
  have hP : va_P (dC, dI) vwCl (mw ar cy st sl) _ := hP
  obtain rfl := hw
  exact W.lret (v := 7011352) hx hb hr (fun t ht hW => ⟨⟨7011352, (st, sl), rfl, ⟨rfl, rfl⟩, mB.of ht hP⟩, hS.F ht⟩) hS.2.2 dX12_wordOf_399
set_option maxHeartbeats 4000000 in
set_option maxRecDepth 100000 in
theorem f_wordOf19 (l : Launch) (dC : Nat → ClassId) (dI : Nat → Nat → Nat) (ar : Nat → Nat) (cy : Nat → ClassId) (sz : Nat) (hN : MN ar) (st : Nat → Nat → Int32) (sl : Nat → Nat → Int64) (hI : MI st) : Met l yX12_wordOf wsX12_wordOf ({ frames := 1, cells := 0, slots := 0, locals := 28 }) (va_Pc [.int 19] (mPre dC dI ar cy sz st sl)) (va_Ql (fun (r : Int64) (x : MT) => x = (st, sl) ∧ (r = 47)) (mB dC dI ar cy) (MA ar sz)) 0 0 (MA ar sz) := by
  refine Met.ofW (cc := cX12_wordOf) (maxL := 1) (ret := (some .long)) (by decide) rfl ?_
  intro p9 e s m9 args below meth c9 s₁ B9 hml hv
  obtain ⟨rfl, hsz, hP, hK⟩ := hv
  have hx := B9.exec
  have hb := B9.bytes
  have hr := B9.returns
  have hts := atoms_spec (ws := wsX12_wordOf) B9.pre
  have hown : s.vm.findClass RX12 = some m9.cls := findClass_of_methodNamed B9.named
  subst hsz
  have hS : va_S (MA ar s.heap.size) s.heap s.heap [] := va_S.rf
  have hG : MG [1, 2, 3, 4, 5, 6, 7, 8, 9, 10, 11, 12, 13, 14, 15, 16, 17, 19, 20, 21, 22, 23] st st := MG.rf hI
  have hl := lv_entry ([.int 19]) (n := 1) (Nat.le_of_ble_eq_true rfl)
  rw [lg_entry_eq]
  generalize (lg_sl ([.int 19]) ++ List.replicate (1 - (lg_sl ([.int 19])).length) Slot.unset).toArray = ls at hl ⊢
  have hl : lv_has ls 1 [(0, .int 19)] := hl
  clear hI
  refine lv_iload_n hx hb dX12_wordOf_0 rfl (lv_at hl 0 rfl) ?_
  refine lv_tableIn (tgt := 400) hx hb dX12_wordOf_1 (by decide) (by decide) rfl (by decide) ?_
  refine lv_bipush (v := 97) hx hb dX12_wordOf_400 (by decide) ?_
  refine lv_bipush (v := 116) hx hb dX12_wordOf_402 (by decide) ?_
  refine lv_iconst (v := 0) hx hb dX12_wordOf_404 (by decide) ?_
  refine lv_iconst (v := 0) hx hb dX12_wordOf_405 (by decide) ?_
  refine lv_iconst (v := 0) hx hb dX12_wordOf_406 (by decide) ?_
  refine lv_iconst (v := 0) hx hb dX12_wordOf_407 (by decide) ?_
  refine lv_iconst (v := 0) hx hb dX12_wordOf_408 (by decide) ?_
  refine va_calll (va_runS (As := [.int 97, .int 116, .int 0, .int 0, .int 0, .int 0, .int 0]) (rest := []) ⟨hx, hb, hml, hown, hts⟩ (f_spelt19 l dC dI ar cy _ hN st sl hG.1 ) (va_cwS 7 hts gX12_wordOf_X12_spelt rfl rfl rfl (by decide +kernel) ⟨Nat.le_of_ble_eq_true rfl, Nat.le_of_ble_eq_true rfl⟩) ⟨fun a U g mk q => ⟨q.1, mPre.blind q.2⟩, fun U hU hW => ⟨rfl, mPre.of hP hK hU hW⟩⟩ rfl rfl hl.1 rfl (lv_room (Nat.le_of_ble_eq_true rfl)) dX12_wordOf_409 ⟨Nat.le_of_ble_eq_true rfl, Nat.le_of_ble_eq_true rfl⟩) hS (fun q _ h => MA.le hS.1 q h) (MA.le hS.1) (fun r1 x t H locs ht hvm hw hB9 _ _ hS => ?_)
  have hP := mB.at ht hB9
  clear hB9 ht hvm
  obtain ⟨rfl, hw⟩ := hw
  have hP : va_P (dC, dI) vwCl (mw ar cy st sl) _ := hP
  obtain rfl := hw
  exact W.lret (v := 47) hx hb hr (fun t ht hW => ⟨⟨47, (st, sl), rfl, ⟨rfl, rfl⟩, mB.of ht hP⟩, hS.F ht⟩) hS.2.2 dX12_wordOf_412
set_option maxHeartbeats 4000000 in
set_option maxRecDepth 100000 in
theorem f_wordOf20 (l : Launch) (dC : Nat → ClassId) (dI : Nat → Nat → Nat) (ar : Nat → Nat) (cy : Nat → ClassId) (sz : Nat) (hN : MN ar) (st : Nat → Nat → Int32) (sl : Nat → Nat → Int64) (hI : MI st) : Met l yX12_wordOf wsX12_wordOf ({ frames := 1, cells := 0, slots := 0, locals := 28 }) (va_Pc [.int 20] (mPre dC dI ar cy sz st sl)) (va_Ql (fun (r : Int64) (x : MT) => x = (st, sl) ∧ (r = 2587730401)) (mB dC dI ar cy) (MA ar sz)) 0 0 (MA ar sz) := by
  refine Met.ofW (cc := cX12_wordOf) (maxL := 1) (ret := (some .long)) (by decide) rfl ?_
  intro p9 e s m9 args below meth c9 s₁ B9 hml hv
  obtain ⟨rfl, hsz, hP, hK⟩ := hv
  have hx := B9.exec
  have hb := B9.bytes
  have hr := B9.returns
  have hts := atoms_spec (ws := wsX12_wordOf) B9.pre
  have hown : s.vm.findClass RX12 = some m9.cls := findClass_of_methodNamed B9.named
  subst hsz
  have hS : va_S (MA ar s.heap.size) s.heap s.heap [] := va_S.rf
  have hG : MG [1, 2, 3, 4, 5, 6, 7, 8, 9, 10, 11, 12, 13, 14, 15, 16, 17, 19, 20, 21, 22, 23] st st := MG.rf hI
  have hl := lv_entry ([.int 20]) (n := 1) (Nat.le_of_ble_eq_true rfl)
  rw [lg_entry_eq]
  generalize (lg_sl ([.int 20]) ++ List.replicate (1 - (lg_sl ([.int 20])).length) Slot.unset).toArray = ls at hl ⊢
  have hl : lv_has ls 1 [(0, .int 20)] := hl
  clear hI
  refine lv_iload_n hx hb dX12_wordOf_0 rfl (lv_at hl 0 rfl) ?_
  refine lv_tableIn (tgt := 413) hx hb dX12_wordOf_1 (by decide) (by decide) rfl (by decide) ?_
  refine lv_bipush (v := 102) hx hb dX12_wordOf_413 (by decide) ?_
  refine lv_bipush (v := 114) hx hb dX12_wordOf_415 (by decide) ?_
  refine lv_bipush (v := 105) hx hb dX12_wordOf_417 (by decide) ?_
  refine lv_bipush (v := 103) hx hb dX12_wordOf_419 (by decide) ?_
  refine lv_bipush (v := 104) hx hb dX12_wordOf_421 (by decide) ?_
  refine lv_bipush (v := 116) hx hb dX12_wordOf_423 (by decide) ?_
  refine lv_bipush (v := 115) hx hb dX12_wordOf_425 (by decide) ?_
  refine va_calll (va_runS (As := [.int 102, .int 114, .int 105, .int 103, .int 104, .int 116, .int 115]) (rest := []) ⟨hx, hb, hml, hown, hts⟩ (f_spelt20 l dC dI ar cy _ hN st sl hG.1 ) (va_cwS 7 hts gX12_wordOf_X12_spelt rfl rfl rfl (by decide +kernel) ⟨Nat.le_of_ble_eq_true rfl, Nat.le_of_ble_eq_true rfl⟩) ⟨fun a U g mk q => ⟨q.1, mPre.blind q.2⟩, fun U hU hW => ⟨rfl, mPre.of hP hK hU hW⟩⟩ rfl rfl hl.1 rfl (lv_room (Nat.le_of_ble_eq_true rfl)) dX12_wordOf_427 ⟨Nat.le_of_ble_eq_true rfl, Nat.le_of_ble_eq_true rfl⟩) hS (fun q _ h => MA.le hS.1 q h) (MA.le hS.1) (fun r1 x t H locs ht hvm hw hB9 _ _ hS => ?_)
  have hP := mB.at ht hB9
  clear hB9 ht hvm
  obtain ⟨rfl, hw⟩ := hw
  have hP : va_P (dC, dI) vwCl (mw ar cy st sl) _ := hP
  obtain rfl := hw
  exact W.lret (v := 2587730401) hx hb hr (fun t ht hW => ⟨⟨2587730401, (st, sl), rfl, ⟨rfl, rfl⟩, mB.of ht hP⟩, hS.F ht⟩) hS.2.2 dX12_wordOf_430
set_option maxHeartbeats 4000000 in
set_option maxRecDepth 100000 in
theorem f_wordOf21 (l : Launch) (dC : Nat → ClassId) (dI : Nat → Nat → Nat) (ar : Nat → Nat) (cy : Nat → ClassId) (sz : Nat) (hN : MN ar) (st : Nat → Nat → Int32) (sl : Nat → Nat → Int64) (hI : MI st) : Met l yX12_wordOf wsX12_wordOf ({ frames := 1, cells := 0, slots := 0, locals := 28 }) (va_Pc [.int 21] (mPre dC dI ar cy sz st sl)) (va_Ql (fun (r : Int64) (x : MT) => x = (st, sl) ∧ (r = 1254763)) (mB dC dI ar cy) (MA ar sz)) 0 0 (MA ar sz) := by
  refine Met.ofW (cc := cX12_wordOf) (maxL := 1) (ret := (some .long)) (by decide) rfl ?_
  intro p9 e s m9 args below meth c9 s₁ B9 hml hv
  obtain ⟨rfl, hsz, hP, hK⟩ := hv
  have hx := B9.exec
  have hb := B9.bytes
  have hr := B9.returns
  have hts := atoms_spec (ws := wsX12_wordOf) B9.pre
  have hown : s.vm.findClass RX12 = some m9.cls := findClass_of_methodNamed B9.named
  subst hsz
  have hS : va_S (MA ar s.heap.size) s.heap s.heap [] := va_S.rf
  have hG : MG [1, 2, 3, 4, 5, 6, 7, 8, 9, 10, 11, 12, 13, 14, 15, 16, 17, 19, 20, 21, 22, 23] st st := MG.rf hI
  have hl := lv_entry ([.int 21]) (n := 1) (Nat.le_of_ble_eq_true rfl)
  rw [lg_entry_eq]
  generalize (lg_sl ([.int 21]) ++ List.replicate (1 - (lg_sl ([.int 21])).length) Slot.unset).toArray = ls at hl ⊢
  have hl : lv_has ls 1 [(0, .int 21)] := hl
  clear hI
  refine lv_iload_n hx hb dX12_wordOf_0 rfl (lv_at hl 0 rfl) ?_
  refine lv_tableIn (tgt := 431) hx hb dX12_wordOf_1 (by decide) (by decide) rfl (by decide) ?_
  refine lv_bipush (v := 98) hx hb dX12_wordOf_431 (by decide) ?_
  refine lv_bipush (v := 105) hx hb dX12_wordOf_433 (by decide) ?_
  refine lv_bipush (v := 116) hx hb dX12_wordOf_435 (by decide) ?_
  refine lv_bipush (v := 101) hx hb dX12_wordOf_437 (by decide) ?_
  refine lv_bipush (v := 115) hx hb dX12_wordOf_439 (by decide) ?_
  refine lv_iconst (v := 0) hx hb dX12_wordOf_441 (by decide) ?_
  refine lv_iconst (v := 0) hx hb dX12_wordOf_442 (by decide) ?_
  refine va_calll (va_runS (As := [.int 98, .int 105, .int 116, .int 101, .int 115, .int 0, .int 0]) (rest := []) ⟨hx, hb, hml, hown, hts⟩ (f_spelt21 l dC dI ar cy _ hN st sl hG.1 ) (va_cwS 7 hts gX12_wordOf_X12_spelt rfl rfl rfl (by decide +kernel) ⟨Nat.le_of_ble_eq_true rfl, Nat.le_of_ble_eq_true rfl⟩) ⟨fun a U g mk q => ⟨q.1, mPre.blind q.2⟩, fun U hU hW => ⟨rfl, mPre.of hP hK hU hW⟩⟩ rfl rfl hl.1 rfl (lv_room (Nat.le_of_ble_eq_true rfl)) dX12_wordOf_443 ⟨Nat.le_of_ble_eq_true rfl, Nat.le_of_ble_eq_true rfl⟩) hS (fun q _ h => MA.le hS.1 q h) (MA.le hS.1) (fun r1 x t H locs ht hvm hw hB9 _ _ hS => ?_)
  have hP := mB.at ht hB9
  clear hB9 ht hvm
  obtain ⟨rfl, hw⟩ := hw
  have hP : va_P (dC, dI) vwCl (mw ar cy st sl) _ := hP
  obtain rfl := hw
  exact W.lret (v := 1254763) hx hb hr (fun t ht hW => ⟨⟨1254763, (st, sl), rfl, ⟨rfl, rfl⟩, mB.of ht hP⟩, hS.F ht⟩) hS.2.2 dX12_wordOf_446
set_option maxHeartbeats 4000000 in
set_option maxRecDepth 100000 in
theorem f_wordOf22 (l : Launch) (dC : Nat → ClassId) (dI : Nat → Nat → Nat) (ar : Nat → Nat) (cy : Nat → ClassId) (sz : Nat) (hN : MN ar) (st : Nat → Nat → Int32) (sl : Nat → Nat → Int64) (hI : MI st) : Met l yX12_wordOf wsX12_wordOf ({ frames := 1, cells := 0, slots := 0, locals := 28 }) (va_Pc [.int 22] (mPre dC dI ar cy sz st sl)) (va_Ql (fun (r : Int64) (x : MT) => x = (st, sl) ∧ (r = 149125)) (mB dC dI ar cy) (MA ar sz)) 0 0 (MA ar sz) := by
  refine Met.ofW (cc := cX12_wordOf) (maxL := 1) (ret := (some .long)) (by decide) rfl ?_
  intro p9 e s m9 args below meth c9 s₁ B9 hml hv
  obtain ⟨rfl, hsz, hP, hK⟩ := hv
  have hx := B9.exec
  have hb := B9.bytes
  have hr := B9.returns
  have hts := atoms_spec (ws := wsX12_wordOf) B9.pre
  have hown : s.vm.findClass RX12 = some m9.cls := findClass_of_methodNamed B9.named
  subst hsz
  have hS : va_S (MA ar s.heap.size) s.heap s.heap [] := va_S.rf
  have hG : MG [1, 2, 3, 4, 5, 6, 7, 8, 9, 10, 11, 12, 13, 14, 15, 16, 17, 19, 20, 21, 22, 23] st st := MG.rf hI
  have hl := lv_entry ([.int 22]) (n := 1) (Nat.le_of_ble_eq_true rfl)
  rw [lg_entry_eq]
  generalize (lg_sl ([.int 22]) ++ List.replicate (1 - (lg_sl ([.int 22])).length) Slot.unset).toArray = ls at hl ⊢
  have hl : lv_has ls 1 [(0, .int 22)] := hl
  clear hI
  refine lv_iload_n hx hb dX12_wordOf_0 rfl (lv_at hl 0 rfl) ?_
  refine lv_tableIn (tgt := 447) hx hb dX12_wordOf_1 (by decide) (by decide) rfl (by decide) ?_
  refine lv_bipush (v := 103) hx hb dX12_wordOf_447 (by decide) ?_
  refine lv_bipush (v := 111) hx hb dX12_wordOf_449 (by decide) ?_
  refine lv_bipush (v := 111) hx hb dX12_wordOf_451 (by decide) ?_
  refine lv_bipush (v := 100) hx hb dX12_wordOf_453 (by decide) ?_
  refine lv_iconst (v := 0) hx hb dX12_wordOf_455 (by decide) ?_
  refine lv_iconst (v := 0) hx hb dX12_wordOf_456 (by decide) ?_
  refine lv_iconst (v := 0) hx hb dX12_wordOf_457 (by decide) ?_
  refine va_calll (va_runS (As := [.int 103, .int 111, .int 111, .int 100, .int 0, .int 0, .int 0]) (rest := []) ⟨hx, hb, hml, hown, hts⟩ (f_spelt22 l dC dI ar cy _ hN st sl hG.1 ) (va_cwS 7 hts gX12_wordOf_X12_spelt rfl rfl rfl (by decide +kernel) ⟨Nat.le_of_ble_eq_true rfl, Nat.le_of_ble_eq_true rfl⟩) ⟨fun a U g mk q => ⟨q.1, mPre.blind q.2⟩, fun U hU hW => ⟨rfl, mPre.of hP hK hU hW⟩⟩ rfl rfl hl.1 rfl (lv_room (Nat.le_of_ble_eq_true rfl)) dX12_wordOf_458 ⟨Nat.le_of_ble_eq_true rfl, Nat.le_of_ble_eq_true rfl⟩) hS (fun q _ h => MA.le hS.1 q h) (MA.le hS.1) (fun r1 x t H locs ht hvm hw hB9 _ _ hS => ?_)
  have hP := mB.at ht hB9
  clear hB9 ht hvm
  obtain ⟨rfl, hw⟩ := hw
  have hP : va_P (dC, dI) vwCl (mw ar cy st sl) _ := hP
  obtain rfl := hw
  exact W.lret (v := 149125) hx hb hr (fun t ht hW => ⟨⟨149125, (st, sl), rfl, ⟨rfl, rfl⟩, mB.of ht hP⟩, hS.F ht⟩) hS.2.2 dX12_wordOf_461
set_option maxHeartbeats 4000000 in
set_option maxRecDepth 100000 in
theorem f_wordOf23 (l : Launch) (dC : Nat → ClassId) (dI : Nat → Nat → Nat) (ar : Nat → Nat) (cy : Nat → ClassId) (sz : Nat) (hN : MN ar) (st : Nat → Nat → Int32) (sl : Nat → Nat → Int64) (hI : MI st) : Met l yX12_wordOf wsX12_wordOf ({ frames := 1, cells := 0, slots := 0, locals := 28 }) (va_Pc [.int 23] (mPre dC dI ar cy sz st sl)) (va_Ql (fun (r : Int64) (x : MT) => x = (st, sl) ∧ (r = 212302449)) (mB dC dI ar cy) (MA ar sz)) 0 0 (MA ar sz) := by
  refine Met.ofW (cc := cX12_wordOf) (maxL := 1) (ret := (some .long)) (by decide) rfl ?_
  intro p9 e s m9 args below meth c9 s₁ B9 hml hv
  obtain ⟨rfl, hsz, hP, hK⟩ := hv
  have hx := B9.exec
  have hb := B9.bytes
  have hr := B9.returns
  have hts := atoms_spec (ws := wsX12_wordOf) B9.pre
  have hown : s.vm.findClass RX12 = some m9.cls := findClass_of_methodNamed B9.named
  subst hsz
  have hS : va_S (MA ar s.heap.size) s.heap s.heap [] := va_S.rf
  have hG : MG [1, 2, 3, 4, 5, 6, 7, 8, 9, 10, 11, 12, 13, 14, 15, 16, 17, 19, 20, 21, 22, 23] st st := MG.rf hI
  have hl := lv_entry ([.int 23]) (n := 1) (Nat.le_of_ble_eq_true rfl)
  rw [lg_entry_eq]
  generalize (lg_sl ([.int 23]) ++ List.replicate (1 - (lg_sl ([.int 23])).length) Slot.unset).toArray = ls at hl ⊢
  have hl : lv_has ls 1 [(0, .int 23)] := hl
  clear hI
  refine lv_iload_n hx hb dX12_wordOf_0 rfl (lv_at hl 0 rfl) ?_
  refine lv_tableOut (tgt := 462) hx hb dX12_wordOf_1 (by decide) (by decide) ?_
  refine lv_bipush (v := 110) hx hb dX12_wordOf_462 (by decide) ?_
  refine lv_bipush (v := 117) hx hb dX12_wordOf_464 (by decide) ?_
  refine lv_bipush (v := 109) hx hb dX12_wordOf_466 (by decide) ?_
  refine lv_bipush (v := 98) hx hb dX12_wordOf_468 (by decide) ?_
  refine lv_bipush (v := 101) hx hb dX12_wordOf_470 (by decide) ?_
  refine lv_bipush (v := 114) hx hb dX12_wordOf_472 (by decide) ?_
  refine lv_iconst (v := 0) hx hb dX12_wordOf_474 (by decide) ?_
  refine va_calll (va_runS (As := [.int 110, .int 117, .int 109, .int 98, .int 101, .int 114, .int 0]) (rest := []) ⟨hx, hb, hml, hown, hts⟩ (f_spelt23 l dC dI ar cy _ hN st sl hG.1 ) (va_cwS 7 hts gX12_wordOf_X12_spelt rfl rfl rfl (by decide +kernel) ⟨Nat.le_of_ble_eq_true rfl, Nat.le_of_ble_eq_true rfl⟩) ⟨fun a U g mk q => ⟨q.1, mPre.blind q.2⟩, fun U hU hW => ⟨rfl, mPre.of hP hK hU hW⟩⟩ rfl rfl hl.1 rfl (lv_room (Nat.le_of_ble_eq_true rfl)) dX12_wordOf_475 ⟨Nat.le_of_ble_eq_true rfl, Nat.le_of_ble_eq_true rfl⟩) hS (fun q _ h => MA.le hS.1 q h) (MA.le hS.1) (fun r1 x t H locs ht hvm hw hB9 _ _ hS => ?_)
  have hP := mB.at ht hB9
  clear hB9 ht hvm
  obtain ⟨rfl, hw⟩ := hw
  have hP : va_P (dC, dI) vwCl (mw ar cy st sl) _ := hP
  obtain rfl := hw
  exact W.lret (v := 212302449) hx hb hr (fun t ht hW => ⟨⟨212302449, (st, sl), rfl, ⟨rfl, rfl⟩, mB.of ht hP⟩, hS.F ht⟩) hS.2.2 dX12_wordOf_478
set_option maxHeartbeats 4000000 in
set_option maxRecDepth 100000 in
theorem f_wordOfN (l : Launch) (dC : Nat → ClassId) (dI : Nat → Nat → Nat) (ar : Nat → Nat) (cy : Nat → ClassId) (sz : Nat) (hN : MN ar) (st : Nat → Nat → Int32) (sl : Nat → Nat → Int64) (va : Nat) (hva : va < 24) (hI : MI st) : Met l yX12_wordOf wsX12_wordOf ({ frames := 1, cells := 0, slots := 0, locals := 28 }) (va_Pc [.int (nI va)] (mPre dC dI ar cy sz st sl)) (va_Ql (fun (r : Int64) (x : MT) => x = (st, sl) ∧ (r = lN (c7 7 (kw5 va)))) (mB dC dI ar cy) (MA ar sz)) 0 0 (MA ar sz) := by
  refine Met.ofW (cc := cX12_wordOf) (maxL := 1) (ret := (some .long)) (by decide) rfl ?_
  intro p9 e s m9 args below meth c9 s₁ B9 hml hv
  obtain ⟨rfl, hsz, hP, hK⟩ := hv
  have hx := B9.exec
  have hb := B9.bytes
  have hr := B9.returns
  have hts := atoms_spec (ws := wsX12_wordOf) B9.pre
  have hown : s.vm.findClass RX12 = some m9.cls := findClass_of_methodNamed B9.named
  subst hsz
  have hS : va_S (MA ar s.heap.size) s.heap s.heap [] := va_S.rf
  have hG : MG [1, 2, 3, 4, 5, 6, 7, 8, 9, 10, 11, 12, 13, 14, 15, 16, 17, 19, 20, 21, 22, 23] st st := MG.rf hI
  have hl := lv_entry ([.int (nI va)]) (n := 1) (Nat.le_of_ble_eq_true rfl)
  rw [lg_entry_eq]
  generalize (lg_sl ([.int (nI va)]) ++ List.replicate (1 - (lg_sl ([.int (nI va)])).length) Slot.unset).toArray = ls at hl ⊢
  have hl : lv_has ls 1 [(0, .int (nI va))] := hl
  clear hI
  refine lv_iload_n hx hb dX12_wordOf_0 rfl (lv_at hl 0 rfl) ?_
  by_cases cw1 : va = 0
  · subst cw1
    refine lv_tableIn (tgt := 108) hx hb dX12_wordOf_1 (by decide) (by decide) rfl (by decide) ?_
    refine lv_bipush (v := 112) hx hb dX12_wordOf_108 (by decide) ?_
    refine lv_bipush (v := 108) hx hb dX12_wordOf_110 (by decide) ?_
    refine lv_bipush (v := 97) hx hb dX12_wordOf_112 (by decide) ?_
    refine lv_bipush (v := 99) hx hb dX12_wordOf_114 (by decide) ?_
    refine lv_bipush (v := 101) hx hb dX12_wordOf_116 (by decide) ?_
    refine lv_iconst (v := 0) hx hb dX12_wordOf_118 (by decide) ?_
    refine lv_iconst (v := 0) hx hb dX12_wordOf_119 (by decide) ?_
    refine va_calll (va_runS (As := [.int 112, .int 108, .int 97, .int 99, .int 101, .int 0, .int 0]) (rest := []) ⟨hx, hb, hml, hown, hts⟩ (f_spelt0 l dC dI ar cy _ hN st sl hG.1 ) (va_cwS 7 hts gX12_wordOf_X12_spelt rfl rfl rfl (by decide +kernel) ⟨Nat.le_of_ble_eq_true rfl, Nat.le_of_ble_eq_true rfl⟩) ⟨fun a U g mk q => ⟨q.1, mPre.blind q.2⟩, fun U hU hW => ⟨rfl, mPre.of hP hK hU hW⟩⟩ rfl rfl hl.1 rfl (lv_room (Nat.le_of_ble_eq_true rfl)) dX12_wordOf_120 ⟨Nat.le_of_ble_eq_true rfl, Nat.le_of_ble_eq_true rfl⟩) hS (fun q _ h => MA.le hS.1 q h) (MA.le hS.1) (fun r2 x t H locs ht hvm hw hB9 _ _ hS => ?_)
    have hP := mB.at ht hB9
    clear hB9 ht hvm
    obtain ⟨rfl, hw⟩ := hw
    have hP : va_P (dC, dI) vwCl (mw ar cy st sl) _ := hP
    obtain rfl := hw
    exact W.lret (v := 8740067) hx hb hr (fun t ht hW => ⟨⟨8740067, (st, sl), rfl, ⟨rfl, by decide +kernel⟩, mB.of ht hP⟩, hS.F ht⟩) hS.2.2 dX12_wordOf_123
  by_cases cw3 : va = 1
  · subst cw3
    refine lv_tableIn (tgt := 124) hx hb dX12_wordOf_1 (by decide) (by decide) rfl (by decide) ?_
    refine lv_bipush (v := 102) hx hb dX12_wordOf_124 (by decide) ?_
    refine lv_bipush (v := 101) hx hb dX12_wordOf_126 (by decide) ?_
    refine lv_bipush (v := 110) hx hb dX12_wordOf_128 (by decide) ?_
    refine lv_bipush (v := 99) hx hb dX12_wordOf_130 (by decide) ?_
    refine lv_bipush (v := 101) hx hb dX12_wordOf_132 (by decide) ?_
    refine lv_bipush (v := 100) hx hb dX12_wordOf_134 (by decide) ?_
    refine lv_iconst (v := 0) hx hb dX12_wordOf_136 (by decide) ?_
    refine va_calll (va_runS (As := [.int 102, .int 101, .int 110, .int 99, .int 101, .int 100, .int 0]) (rest := []) ⟨hx, hb, hml, hown, hts⟩ (f_spelt1 l dC dI ar cy _ hN st sl hG.1 ) (va_cwS 7 hts gX12_wordOf_X12_spelt rfl rfl rfl (by decide +kernel) ⟨Nat.le_of_ble_eq_true rfl, Nat.le_of_ble_eq_true rfl⟩) ⟨fun a U g mk q => ⟨q.1, mPre.blind q.2⟩, fun U hU hW => ⟨rfl, mPre.of hP hK hU hW⟩⟩ rfl rfl hl.1 rfl (lv_room (Nat.le_of_ble_eq_true rfl)) dX12_wordOf_137 ⟨Nat.le_of_ble_eq_true rfl, Nat.le_of_ble_eq_true rfl⟩) hS (fun q _ h => MA.le hS.1 q h) (MA.le hS.1) (fun r4 x t H locs ht hvm hw hB9 _ _ hS => ?_)
    have hP := mB.at ht hB9
    clear hB9 ht hvm
    obtain ⟨rfl, hw⟩ := hw
    have hP : va_P (dC, dI) vwCl (mw ar cy st sl) _ := hP
    obtain rfl := hw
    exact W.lret (v := 89028535) hx hb hr (fun t ht hW => ⟨⟨89028535, (st, sl), rfl, ⟨rfl, by decide +kernel⟩, mB.of ht hP⟩, hS.F ht⟩) hS.2.2 dX12_wordOf_140
  by_cases cw5 : va = 2
  · subst cw5
    refine lv_tableIn (tgt := 141) hx hb dX12_wordOf_1 (by decide) (by decide) rfl (by decide) ?_
    refine lv_bipush (v := 112) hx hb dX12_wordOf_141 (by decide) ?_
    refine lv_bipush (v := 101) hx hb dX12_wordOf_143 (by decide) ?_
    refine lv_bipush (v := 114) hx hb dX12_wordOf_145 (by decide) ?_
    refine lv_bipush (v := 115) hx hb dX12_wordOf_147 (by decide) ?_
    refine lv_bipush (v := 111) hx hb dX12_wordOf_149 (by decide) ?_
    refine lv_bipush (v := 110) hx hb dX12_wordOf_151 (by decide) ?_
    refine lv_iconst (v := 0) hx hb dX12_wordOf_153 (by decide) ?_
    refine va_calll (va_runS (As := [.int 112, .int 101, .int 114, .int 115, .int 111, .int 110, .int 0]) (rest := []) ⟨hx, hb, hml, hown, hts⟩ (f_spelt2 l dC dI ar cy _ hN st sl hG.1 ) (va_cwS 7 hts gX12_wordOf_X12_spelt rfl rfl rfl (by decide +kernel) ⟨Nat.le_of_ble_eq_true rfl, Nat.le_of_ble_eq_true rfl⟩) ⟨fun a U g mk q => ⟨q.1, mPre.blind q.2⟩, fun U hU hW => ⟨rfl, mPre.of hP hK hU hW⟩⟩ rfl rfl hl.1 rfl (lv_room (Nat.le_of_ble_eq_true rfl)) dX12_wordOf_154 ⟨Nat.le_of_ble_eq_true rfl, Nat.le_of_ble_eq_true rfl⟩) hS (fun q _ h => MA.le hS.1 q h) (MA.le hS.1) (fun r6 x t H locs ht hvm hw hB9 _ _ hS => ?_)
    have hP := mB.at ht hB9
    clear hB9 ht hvm
    obtain ⟨rfl, hw⟩ := hw
    have hP : va_P (dC, dI) vwCl (mw ar cy st sl) _ := hP
    obtain rfl := hw
    exact W.lret (v := 232608281) hx hb hr (fun t ht hW => ⟨⟨232608281, (st, sl), rfl, ⟨rfl, by decide +kernel⟩, mB.of ht hP⟩, hS.F ht⟩) hS.2.2 dX12_wordOf_157
  by_cases cw7 : va = 3
  · subst cw7
    refine lv_tableIn (tgt := 158) hx hb dX12_wordOf_1 (by decide) (by decide) rfl (by decide) ?_
    refine lv_bipush (v := 100) hx hb dX12_wordOf_158 (by decide) ?_
    refine lv_bipush (v := 111) hx hb dX12_wordOf_160 (by decide) ?_
    refine lv_bipush (v := 103) hx hb dX12_wordOf_162 (by decide) ?_
    refine lv_iconst (v := 0) hx hb dX12_wordOf_164 (by decide) ?_
    refine lv_iconst (v := 0) hx hb dX12_wordOf_165 (by decide) ?_
    refine lv_iconst (v := 0) hx hb dX12_wordOf_166 (by decide) ?_
    refine lv_iconst (v := 0) hx hb dX12_wordOf_167 (by decide) ?_
    refine va_calll (va_runS (As := [.int 100, .int 111, .int 103, .int 0, .int 0, .int 0, .int 0]) (rest := []) ⟨hx, hb, hml, hown, hts⟩ (f_spelt3 l dC dI ar cy _ hN st sl hG.1 ) (va_cwS 7 hts gX12_wordOf_X12_spelt rfl rfl rfl (by decide +kernel) ⟨Nat.le_of_ble_eq_true rfl, Nat.le_of_ble_eq_true rfl⟩) ⟨fun a U g mk q => ⟨q.1, mPre.blind q.2⟩, fun U hU hW => ⟨rfl, mPre.of hP hK hU hW⟩⟩ rfl rfl hl.1 rfl (lv_room (Nat.le_of_ble_eq_true rfl)) dX12_wordOf_168 ⟨Nat.le_of_ble_eq_true rfl, Nat.le_of_ble_eq_true rfl⟩) hS (fun q _ h => MA.le hS.1 q h) (MA.le hS.1) (fun r8 x t H locs ht hvm hw hB9 _ _ hS => ?_)
    have hP := mB.at ht hB9
    clear hB9 ht hvm
    obtain ⟨rfl, hw⟩ := hw
    have hP : va_P (dC, dI) vwCl (mw ar cy st sl) _ := hP
    obtain rfl := hw
    exact W.lret (v := 3328) hx hb hr (fun t ht hW => ⟨⟨3328, (st, sl), rfl, ⟨rfl, by decide +kernel⟩, mB.of ht hP⟩, hS.F ht⟩) hS.2.2 dX12_wordOf_171
  by_cases cw9 : va = 4
  · subst cw9
    refine lv_tableIn (tgt := 172) hx hb dX12_wordOf_1 (by decide) (by decide) rfl (by decide) ?_
    refine lv_bipush (v := 102) hx hb dX12_wordOf_172 (by decide) ?_
    refine lv_bipush (v := 114) hx hb dX12_wordOf_174 (by decide) ?_
    refine lv_bipush (v := 101) hx hb dX12_wordOf_176 (by decide) ?_
    refine lv_bipush (v := 101) hx hb dX12_wordOf_178 (by decide) ?_
    refine lv_iconst (v := 0) hx hb dX12_wordOf_180 (by decide) ?_
    refine lv_iconst (v := 0) hx hb dX12_wordOf_181 (by decide) ?_
    refine lv_iconst (v := 0) hx hb dX12_wordOf_182 (by decide) ?_
    refine va_calll (va_runS (As := [.int 102, .int 114, .int 101, .int 101, .int 0, .int 0, .int 0]) (rest := []) ⟨hx, hb, hml, hown, hts⟩ (f_spelt4 l dC dI ar cy _ hN st sl hG.1 ) (va_cwS 7 hts gX12_wordOf_X12_spelt rfl rfl rfl (by decide +kernel) ⟨Nat.le_of_ble_eq_true rfl, Nat.le_of_ble_eq_true rfl⟩) ⟨fun a U g mk q => ⟨q.1, mPre.blind q.2⟩, fun U hU hW => ⟨rfl, mPre.of hP hK hU hW⟩⟩ rfl rfl hl.1 rfl (lv_room (Nat.le_of_ble_eq_true rfl)) dX12_wordOf_183 ⟨Nat.le_of_ble_eq_true rfl, Nat.le_of_ble_eq_true rfl⟩) hS (fun q _ h => MA.le hS.1 q h) (MA.le hS.1) (fun r10 x t H locs ht hvm hw hB9 _ _ hS => ?_)
    have hP := mB.at ht hB9
    clear hB9 ht hvm
    obtain ⟨rfl, hw⟩ := hw
    have hP : va_P (dC, dI) vwCl (mw ar cy st sl) _ := hP
    obtain rfl := hw
    exact W.lret (v := 131360) hx hb hr (fun t ht hW => ⟨⟨131360, (st, sl), rfl, ⟨rfl, by decide +kernel⟩, mB.of ht hP⟩, hS.F ht⟩) hS.2.2 dX12_wordOf_186
  by_cases cw11 : va = 5
  · subst cw11
    refine lv_tableIn (tgt := 187) hx hb dX12_wordOf_1 (by decide) (by decide) rfl (by decide) ?_
    refine lv_bipush (v := 115) hx hb dX12_wordOf_187 (by decide) ?_
    refine lv_bipush (v := 105) hx hb dX12_wordOf_189 (by decide) ?_
    refine lv_bipush (v := 103) hx hb dX12_wordOf_191 (by decide) ?_
    refine lv_bipush (v := 110) hx hb dX12_wordOf_193 (by decide) ?_
    refine lv_iconst (v := 0) hx hb dX12_wordOf_195 (by decide) ?_
    refine lv_iconst (v := 0) hx hb dX12_wordOf_196 (by decide) ?_
    refine lv_iconst (v := 0) hx hb dX12_wordOf_197 (by decide) ?_
    refine va_calll (va_runS (As := [.int 115, .int 105, .int 103, .int 110, .int 0, .int 0, .int 0]) (rest := []) ⟨hx, hb, hml, hown, hts⟩ (f_spelt5 l dC dI ar cy _ hN st sl hG.1 ) (va_cwS 7 hts gX12_wordOf_X12_spelt rfl rfl rfl (by decide +kernel) ⟨Nat.le_of_ble_eq_true rfl, Nat.le_of_ble_eq_true rfl⟩) ⟨fun a U g mk q => ⟨q.1, mPre.blind q.2⟩, fun U hU hW => ⟨rfl, mPre.of hP hK hU hW⟩⟩ rfl rfl hl.1 rfl (lv_room (Nat.le_of_ble_eq_true rfl)) dX12_wordOf_198 ⟨Nat.le_of_ble_eq_true rfl, Nat.le_of_ble_eq_true rfl⟩) hS (fun q _ h => MA.le hS.1 q h) (MA.le hS.1) (fun r12 x t H locs ht hvm hw hB9 _ _ hS => ?_)
    have hP := mB.at ht hB9
    clear hB9 ht hvm
    obtain ⟨rfl, hw⟩ := hw
    have hP : va_P (dC, dI) vwCl (mw ar cy st sl) _ := hP
    obtain rfl := hw
    exact W.lret (v := 380741) hx hb hr (fun t ht hW => ⟨⟨380741, (st, sl), rfl, ⟨rfl, by decide +kernel⟩, mB.of ht hP⟩, hS.F ht⟩) hS.2.2 dX12_wordOf_201
  by_cases cw13 : va = 6
  · subst cw13
    refine lv_tableIn (tgt := 202) hx hb dX12_wordOf_1 (by decide) (by decide) rfl (by decide) ?_
    refine lv_bipush (v := 97) hx hb dX12_wordOf_202 (by decide) ?_
    refine lv_bipush (v := 108) hx hb dX12_wordOf_204 (by decide) ?_
    refine lv_bipush (v := 108) hx hb dX12_wordOf_206 (by decide) ?_
    refine lv_bipush (v := 111) hx hb dX12_wordOf_208 (by decide) ?_
    refine lv_bipush (v := 119) hx hb dX12_wordOf_210 (by decide) ?_
    refine lv_iconst (v := 0) hx hb dX12_wordOf_212 (by decide) ?_
    refine lv_iconst (v := 0) hx hb dX12_wordOf_213 (by decide) ?_
    refine va_calll (va_runS (As := [.int 97, .int 108, .int 108, .int 111, .int 119, .int 0, .int 0]) (rest := []) ⟨hx, hb, hml, hown, hts⟩ (f_spelt6 l dC dI ar cy _ hN st sl hG.1 ) (va_cwS 7 hts gX12_wordOf_X12_spelt rfl rfl rfl (by decide +kernel) ⟨Nat.le_of_ble_eq_true rfl, Nat.le_of_ble_eq_true rfl⟩) ⟨fun a U g mk q => ⟨q.1, mPre.blind q.2⟩, fun U hU hW => ⟨rfl, mPre.of hP hK hU hW⟩⟩ rfl rfl hl.1 rfl (lv_room (Nat.le_of_ble_eq_true rfl)) dX12_wordOf_214 ⟨Nat.le_of_ble_eq_true rfl, Nat.le_of_ble_eq_true rfl⟩) hS (fun q _ h => MA.le hS.1 q h) (MA.le hS.1) (fun r14 x t H locs ht hvm hw hB9 _ _ hS => ?_)
    have hP := mB.at ht hB9
    clear hB9 ht hvm
    obtain ⟨rfl, hw⟩ := hw
    have hP : va_P (dC, dI) vwCl (mw ar cy st sl) _ := hP
    obtain rfl := hw
    exact W.lret (v := 776813) hx hb hr (fun t ht hW => ⟨⟨776813, (st, sl), rfl, ⟨rfl, by decide +kernel⟩, mB.of ht hP⟩, hS.F ht⟩) hS.2.2 dX12_wordOf_217
  by_cases cw15 : va = 7
  · subst cw15
    refine lv_tableIn (tgt := 218) hx hb dX12_wordOf_1 (by decide) (by decide) rfl (by decide) ?_
    refine lv_bipush (v := 102) hx hb dX12_wordOf_218 (by decide) ?_
    refine lv_bipush (v := 111) hx hb dX12_wordOf_220 (by decide) ?_
    refine lv_bipush (v := 114) hx hb dX12_wordOf_222 (by decide) ?_
    refine lv_bipush (v := 98) hx hb dX12_wordOf_224 (by decide) ?_
    refine lv_bipush (v := 105) hx hb dX12_wordOf_226 (by decide) ?_
    refine lv_bipush (v := 100) hx hb dX12_wordOf_228 (by decide) ?_
    refine lv_iconst (v := 0) hx hb dX12_wordOf_230 (by decide) ?_
    refine va_calll (va_runS (As := [.int 102, .int 111, .int 114, .int 98, .int 105, .int 100, .int 0]) (rest := []) ⟨hx, hb, hml, hown, hts⟩ (f_spelt7 l dC dI ar cy _ hN st sl hG.1 ) (va_cwS 7 hts gX12_wordOf_X12_spelt rfl rfl rfl (by decide +kernel) ⟨Nat.le_of_ble_eq_true rfl, Nat.le_of_ble_eq_true rfl⟩) ⟨fun a U g mk q => ⟨q.1, mPre.blind q.2⟩, fun U hU hW => ⟨rfl, mPre.of hP hK hU hW⟩⟩ rfl rfl hl.1 rfl (lv_room (Nat.le_of_ble_eq_true rfl)) dX12_wordOf_231 ⟨Nat.le_of_ble_eq_true rfl, Nat.le_of_ble_eq_true rfl⟩) hS (fun q _ h => MA.le hS.1 q h) (MA.le hS.1) (fun r16 x t H locs ht hvm hw hB9 _ _ hS => ?_)
    have hP := mB.at ht hB9
    clear hB9 ht hvm
    obtain ⟨rfl, hw⟩ := hw
    have hP : va_P (dC, dI) vwCl (mw ar cy st sl) _ := hP
    obtain rfl := hw
    exact W.lret (v := 94421056) hx hb hr (fun t ht hW => ⟨⟨94421056, (st, sl), rfl, ⟨rfl, by decide +kernel⟩, mB.of ht hP⟩, hS.F ht⟩) hS.2.2 dX12_wordOf_234
  by_cases cw17 : va = 8
  · subst cw17
    refine lv_tableIn (tgt := 235) hx hb dX12_wordOf_1 (by decide) (by decide) rfl (by decide) ?_
    refine lv_bipush (v := 102) hx hb dX12_wordOf_235 (by decide) ?_
    refine lv_bipush (v := 101) hx hb dX12_wordOf_237 (by decide) ?_
    refine lv_bipush (v := 110) hx hb dX12_wordOf_239 (by decide) ?_
    refine lv_bipush (v := 99) hx hb dX12_wordOf_241 (by decide) ?_
    refine lv_bipush (v := 101) hx hb dX12_wordOf_243 (by decide) ?_
    refine lv_iconst (v := 0) hx hb dX12_wordOf_245 (by decide) ?_
    refine lv_iconst (v := 0) hx hb dX12_wordOf_246 (by decide) ?_
    refine va_calll (va_runS (As := [.int 102, .int 101, .int 110, .int 99, .int 101, .int 0, .int 0]) (rest := []) ⟨hx, hb, hml, hown, hts⟩ (f_spelt8 l dC dI ar cy _ hN st sl hG.1 ) (va_cwS 7 hts gX12_wordOf_X12_spelt rfl rfl rfl (by decide +kernel) ⟨Nat.le_of_ble_eq_true rfl, Nat.le_of_ble_eq_true rfl⟩) ⟨fun a U g mk q => ⟨q.1, mPre.blind q.2⟩, fun U hU hW => ⟨rfl, mPre.of hP hK hU hW⟩⟩ rfl rfl hl.1 rfl (lv_room (Nat.le_of_ble_eq_true rfl)) dX12_wordOf_247 ⟨Nat.le_of_ble_eq_true rfl, Nat.le_of_ble_eq_true rfl⟩) hS (fun q _ h => MA.le hS.1 q h) (MA.le hS.1) (fun r18 x t H locs ht hvm hw hB9 _ _ hS => ?_)
    have hP := mB.at ht hB9
    clear hB9 ht hvm
    obtain ⟨rfl, hw⟩ := hw
    have hP : va_P (dC, dI) vwCl (mw ar cy st sl) _ := hP
    obtain rfl := hw
    exact W.lret (v := 3297353) hx hb hr (fun t ht hW => ⟨⟨3297353, (st, sl), rfl, ⟨rfl, by decide +kernel⟩, mB.of ht hP⟩, hS.F ht⟩) hS.2.2 dX12_wordOf_250
  by_cases cw19 : va = 9
  · subst cw19
    refine lv_tableIn (tgt := 251) hx hb dX12_wordOf_1 (by decide) (by decide) rfl (by decide) ?_
    refine lv_bipush (v := 104) hx hb dX12_wordOf_251 (by decide) ?_
    refine lv_bipush (v := 101) hx hb dX12_wordOf_253 (by decide) ?_
    refine lv_bipush (v := 108) hx hb dX12_wordOf_255 (by decide) ?_
    refine lv_bipush (v := 100) hx hb dX12_wordOf_257 (by decide) ?_
    refine lv_iconst (v := 0) hx hb dX12_wordOf_259 (by decide) ?_
    refine lv_iconst (v := 0) hx hb dX12_wordOf_260 (by decide) ?_
    refine lv_iconst (v := 0) hx hb dX12_wordOf_261 (by decide) ?_
    refine va_calll (va_runS (As := [.int 104, .int 101, .int 108, .int 100, .int 0, .int 0, .int 0]) (rest := []) ⟨hx, hb, hml, hown, hts⟩ (f_spelt9 l dC dI ar cy _ hN st sl hG.1 ) (va_cwS 7 hts gX12_wordOf_X12_spelt rfl rfl rfl (by decide +kernel) ⟨Nat.le_of_ble_eq_true rfl, Nat.le_of_ble_eq_true rfl⟩) ⟨fun a U g mk q => ⟨q.1, mPre.blind q.2⟩, fun U hU hW => ⟨rfl, mPre.of hP hK hU hW⟩⟩ rfl rfl hl.1 rfl (lv_room (Nat.le_of_ble_eq_true rfl)) dX12_wordOf_262 ⟨Nat.le_of_ble_eq_true rfl, Nat.le_of_ble_eq_true rfl⟩) hS (fun q _ h => MA.le hS.1 q h) (MA.le hS.1) (fun r20 x t H locs ht hvm hw hB9 _ _ hS => ?_)
    have hP := mB.at ht hB9
    clear hB9 ht hvm
    obtain ⟨rfl, hw⟩ := hw
    have hP : va_P (dC, dI) vwCl (mw ar cy st sl) _ := hP
    obtain rfl := hw
    exact W.lret (v := 161437) hx hb hr (fun t ht hW => ⟨⟨161437, (st, sl), rfl, ⟨rfl, by decide +kernel⟩, mB.of ht hP⟩, hS.F ht⟩) hS.2.2 dX12_wordOf_265
  by_cases cw21 : va = 10
  · subst cw21
    refine lv_tableIn (tgt := 266) hx hb dX12_wordOf_1 (by decide) (by decide) rfl (by decide) ?_
    refine lv_bipush (v := 108) hx hb dX12_wordOf_266 (by decide) ?_
    refine lv_bipush (v := 111) hx hb dX12_wordOf_268 (by decide) ?_
    refine lv_bipush (v := 111) hx hb dX12_wordOf_270 (by decide) ?_
    refine lv_bipush (v := 115) hx hb dX12_wordOf_272 (by decide) ?_
    refine lv_bipush (v := 101) hx hb dX12_wordOf_274 (by decide) ?_
    refine lv_iconst (v := 0) hx hb dX12_wordOf_276 (by decide) ?_
    refine lv_iconst (v := 0) hx hb dX12_wordOf_277 (by decide) ?_
    refine va_calll (va_runS (As := [.int 108, .int 111, .int 111, .int 115, .int 101, .int 0, .int 0]) (rest := []) ⟨hx, hb, hml, hown, hts⟩ (f_spelt10 l dC dI ar cy _ hN st sl hG.1 ) (va_cwS 7 hts gX12_wordOf_X12_spelt rfl rfl rfl (by decide +kernel) ⟨Nat.le_of_ble_eq_true rfl, Nat.le_of_ble_eq_true rfl⟩) ⟨fun a U g mk q => ⟨q.1, mPre.blind q.2⟩, fun U hU hW => ⟨rfl, mPre.of hP hK hU hW⟩⟩ rfl rfl hl.1 rfl (lv_room (Nat.le_of_ble_eq_true rfl)) dX12_wordOf_278 ⟨Nat.le_of_ble_eq_true rfl, Nat.le_of_ble_eq_true rfl⟩) hS (fun q _ h => MA.le hS.1 q h) (MA.le hS.1) (fun r22 x t H locs ht hvm hw hB9 _ _ hS => ?_)
    have hP := mB.at ht hB9
    clear hB9 ht hvm
    obtain ⟨rfl, hw⟩ := hw
    have hP : va_P (dC, dI) vwCl (mw ar cy st sl) _ := hP
    obtain rfl := hw
    exact W.lret (v := 6683990) hx hb hr (fun t ht hW => ⟨⟨6683990, (st, sl), rfl, ⟨rfl, by decide +kernel⟩, mB.of ht hP⟩, hS.F ht⟩) hS.2.2 dX12_wordOf_281
  by_cases cw23 : va = 11
  · subst cw23
    refine lv_tableIn (tgt := 282) hx hb dX12_wordOf_1 (by decide) (by decide) rfl (by decide) ?_
    refine lv_bipush (v := 99) hx hb dX12_wordOf_282 (by decide) ?_
    refine lv_bipush (v := 111) hx hb dX12_wordOf_284 (by decide) ?_
    refine lv_bipush (v := 109) hx hb dX12_wordOf_286 (by decide) ?_
    refine lv_bipush (v := 101) hx hb dX12_wordOf_288 (by decide) ?_
    refine lv_bipush (v := 115) hx hb dX12_wordOf_290 (by decide) ?_
    refine lv_iconst (v := 0) hx hb dX12_wordOf_292 (by decide) ?_
    refine lv_iconst (v := 0) hx hb dX12_wordOf_293 (by decide) ?_
    refine va_calll (va_runS (As := [.int 99, .int 111, .int 109, .int 101, .int 115, .int 0, .int 0]) (rest := []) ⟨hx, hb, hml, hown, hts⟩ (f_spelt11 l dC dI ar cy _ hN st sl hG.1 ) (va_cwS 7 hts gX12_wordOf_X12_spelt rfl rfl rfl (by decide +kernel) ⟨Nat.le_of_ble_eq_true rfl, Nat.le_of_ble_eq_true rfl⟩) ⟨fun a U g mk q => ⟨q.1, mPre.blind q.2⟩, fun U hU hW => ⟨rfl, mPre.of hP hK hU hW⟩⟩ rfl rfl hl.1 rfl (lv_room (Nat.le_of_ble_eq_true rfl)) dX12_wordOf_294 ⟨Nat.le_of_ble_eq_true rfl, Nat.le_of_ble_eq_true rfl⟩) hS (fun q _ h => MA.le hS.1 q h) (MA.le hS.1) (fun r24 x t H locs ht hvm hw hB9 _ _ hS => ?_)
    have hP := mB.at ht hB9
    clear hB9 ht hvm
    obtain ⟨rfl, hw⟩ := hw
    have hP : va_P (dC, dI) vwCl (mw ar cy st sl) _ := hP
    obtain rfl := hw
    exact W.lret (v := 1899199) hx hb hr (fun t ht hW => ⟨⟨1899199, (st, sl), rfl, ⟨rfl, by decide +kernel⟩, mB.of ht hP⟩, hS.F ht⟩) hS.2.2 dX12_wordOf_297
  by_cases cw25 : va = 12
  · subst cw25
    refine lv_tableIn (tgt := 298) hx hb dX12_wordOf_1 (by decide) (by decide) rfl (by decide) ?_
    refine lv_bipush (v := 100) hx hb dX12_wordOf_298 (by decide) ?_
    refine lv_bipush (v := 97) hx hb dX12_wordOf_300 (by decide) ?_
    refine lv_bipush (v := 121) hx hb dX12_wordOf_302 (by decide) ?_
    refine lv_iconst (v := 0) hx hb dX12_wordOf_304 (by decide) ?_
    refine lv_iconst (v := 0) hx hb dX12_wordOf_305 (by decide) ?_
    refine lv_iconst (v := 0) hx hb dX12_wordOf_306 (by decide) ?_
    refine lv_iconst (v := 0) hx hb dX12_wordOf_307 (by decide) ?_
    refine va_calll (va_runS (As := [.int 100, .int 97, .int 121, .int 0, .int 0, .int 0, .int 0]) (rest := []) ⟨hx, hb, hml, hown, hts⟩ (f_spelt12 l dC dI ar cy _ hN st sl hG.1 ) (va_cwS 7 hts gX12_wordOf_X12_spelt rfl rfl rfl (by decide +kernel) ⟨Nat.le_of_ble_eq_true rfl, Nat.le_of_ble_eq_true rfl⟩) ⟨fun a U g mk q => ⟨q.1, mPre.blind q.2⟩, fun U hU hW => ⟨rfl, mPre.of hP hK hU hW⟩⟩ rfl rfl hl.1 rfl (lv_room (Nat.le_of_ble_eq_true rfl)) dX12_wordOf_308 ⟨Nat.le_of_ble_eq_true rfl, Nat.le_of_ble_eq_true rfl⟩) hS (fun q _ h => MA.le hS.1 q h) (MA.le hS.1) (fun r26 x t H locs ht hvm hw hB9 _ _ hS => ?_)
    have hP := mB.at ht hB9
    clear hB9 ht hvm
    obtain ⟨rfl, hw⟩ := hw
    have hP : va_P (dC, dI) vwCl (mw ar cy st sl) _ := hP
    obtain rfl := hw
    exact W.lret (v := 2968) hx hb hr (fun t ht hW => ⟨⟨2968, (st, sl), rfl, ⟨rfl, by decide +kernel⟩, mB.of ht hP⟩, hS.F ht⟩) hS.2.2 dX12_wordOf_311
  by_cases cw27 : va = 13
  · subst cw27
    refine lv_tableIn (tgt := 312) hx hb dX12_wordOf_1 (by decide) (by decide) rfl (by decide) ?_
    refine lv_bipush (v := 111) hx hb dX12_wordOf_312 (by decide) ?_
    refine lv_bipush (v := 114) hx hb dX12_wordOf_314 (by decide) ?_
    refine lv_iconst (v := 0) hx hb dX12_wordOf_316 (by decide) ?_
    refine lv_iconst (v := 0) hx hb dX12_wordOf_317 (by decide) ?_
    refine lv_iconst (v := 0) hx hb dX12_wordOf_318 (by decide) ?_
    refine lv_iconst (v := 0) hx hb dX12_wordOf_319 (by decide) ?_
    refine lv_iconst (v := 0) hx hb dX12_wordOf_320 (by decide) ?_
    refine va_calll (va_runS (As := [.int 111, .int 114, .int 0, .int 0, .int 0, .int 0, .int 0]) (rest := []) ⟨hx, hb, hml, hown, hts⟩ (f_spelt13 l dC dI ar cy _ hN st sl hG.1 ) (va_cwS 7 hts gX12_wordOf_X12_spelt rfl rfl rfl (by decide +kernel) ⟨Nat.le_of_ble_eq_true rfl, Nat.le_of_ble_eq_true rfl⟩) ⟨fun a U g mk q => ⟨q.1, mPre.blind q.2⟩, fun U hU hW => ⟨rfl, mPre.of hP hK hU hW⟩⟩ rfl rfl hl.1 rfl (lv_room (Nat.le_of_ble_eq_true rfl)) dX12_wordOf_321 ⟨Nat.le_of_ble_eq_true rfl, Nat.le_of_ble_eq_true rfl⟩) hS (fun q _ h => MA.le hS.1 q h) (MA.le hS.1) (fun r28 x t H locs ht hvm hw hB9 _ _ hS => ?_)
    have hP := mB.at ht hB9
    clear hB9 ht hvm
    obtain ⟨rfl, hw⟩ := hw
    have hP : va_P (dC, dI) vwCl (mw ar cy st sl) _ := hP
    obtain rfl := hw
    exact W.lret (v := 423) hx hb hr (fun t ht hW => ⟨⟨423, (st, sl), rfl, ⟨rfl, by decide +kernel⟩, mB.of ht hP⟩, hS.F ht⟩) hS.2.2 dX12_wordOf_324
  by_cases cw29 : va = 14
  · subst cw29
    refine lv_tableIn (tgt := 325) hx hb dX12_wordOf_1 (by decide) (by decide) rfl (by decide) ?_
    refine lv_bipush (v := 97) hx hb dX12_wordOf_325 (by decide) ?_
    refine lv_bipush (v := 110) hx hb dX12_wordOf_327 (by decide) ?_
    refine lv_bipush (v := 100) hx hb dX12_wordOf_329 (by decide) ?_
    refine lv_iconst (v := 0) hx hb dX12_wordOf_331 (by decide) ?_
    refine lv_iconst (v := 0) hx hb dX12_wordOf_332 (by decide) ?_
    refine lv_iconst (v := 0) hx hb dX12_wordOf_333 (by decide) ?_
    refine lv_iconst (v := 0) hx hb dX12_wordOf_334 (by decide) ?_
    refine va_calll (va_runS (As := [.int 97, .int 110, .int 100, .int 0, .int 0, .int 0, .int 0]) (rest := []) ⟨hx, hb, hml, hown, hts⟩ (f_spelt14 l dC dI ar cy _ hN st sl hG.1 ) (va_cwS 7 hts gX12_wordOf_X12_spelt rfl rfl rfl (by decide +kernel) ⟨Nat.le_of_ble_eq_true rfl, Nat.le_of_ble_eq_true rfl⟩) ⟨fun a U g mk q => ⟨q.1, mPre.blind q.2⟩, fun U hU hW => ⟨rfl, mPre.of hP hK hU hW⟩⟩ rfl rfl hl.1 rfl (lv_room (Nat.le_of_ble_eq_true rfl)) dX12_wordOf_335 ⟨Nat.le_of_ble_eq_true rfl, Nat.le_of_ble_eq_true rfl⟩) hS (fun q _ h => MA.le hS.1 q h) (MA.le hS.1) (fun r30 x t H locs ht hvm hw hB9 _ _ hS => ?_)
    have hP := mB.at ht hB9
    clear hB9 ht hvm
    obtain ⟨rfl, hw⟩ := hw
    have hP : va_P (dC, dI) vwCl (mw ar cy st sl) _ := hP
    obtain rfl := hw
    exact W.lret (v := 1111) hx hb hr (fun t ht hW => ⟨⟨1111, (st, sl), rfl, ⟨rfl, by decide +kernel⟩, mB.of ht hP⟩, hS.F ht⟩) hS.2.2 dX12_wordOf_338
  by_cases cw31 : va = 15
  · subst cw31
    refine lv_tableIn (tgt := 339) hx hb dX12_wordOf_1 (by decide) (by decide) rfl (by decide) ?_
    refine lv_bipush (v := 110) hx hb dX12_wordOf_339 (by decide) ?_
    refine lv_bipush (v := 111) hx hb dX12_wordOf_341 (by decide) ?_
    refine lv_bipush (v := 116) hx hb dX12_wordOf_343 (by decide) ?_
    refine lv_iconst (v := 0) hx hb dX12_wordOf_345 (by decide) ?_
    refine lv_iconst (v := 0) hx hb dX12_wordOf_346 (by decide) ?_
    refine lv_iconst (v := 0) hx hb dX12_wordOf_347 (by decide) ?_
    refine lv_iconst (v := 0) hx hb dX12_wordOf_348 (by decide) ?_
    refine va_calll (va_runS (As := [.int 110, .int 111, .int 116, .int 0, .int 0, .int 0, .int 0]) (rest := []) ⟨hx, hb, hml, hown, hts⟩ (f_spelt15 l dC dI ar cy _ hN st sl hG.1 ) (va_cwS 7 hts gX12_wordOf_X12_spelt rfl rfl rfl (by decide +kernel) ⟨Nat.le_of_ble_eq_true rfl, Nat.le_of_ble_eq_true rfl⟩) ⟨fun a U g mk q => ⟨q.1, mPre.blind q.2⟩, fun U hU hW => ⟨rfl, mPre.of hP hK hU hW⟩⟩ rfl rfl hl.1 rfl (lv_room (Nat.le_of_ble_eq_true rfl)) dX12_wordOf_349 ⟨Nat.le_of_ble_eq_true rfl, Nat.le_of_ble_eq_true rfl⟩) hS (fun q _ h => MA.le hS.1 q h) (MA.le hS.1) (fun r32 x t H locs ht hvm hw hB9 _ _ hS => ?_)
    have hP := mB.at ht hB9
    clear hB9 ht hvm
    obtain ⟨rfl, hw⟩ := hw
    have hP : va_P (dC, dI) vwCl (mw ar cy st sl) _ := hP
    obtain rfl := hw
    exact W.lret (v := 10631) hx hb hr (fun t ht hW => ⟨⟨10631, (st, sl), rfl, ⟨rfl, by decide +kernel⟩, mB.of ht hP⟩, hS.F ht⟩) hS.2.2 dX12_wordOf_352
  by_cases cw33 : va = 16
  · subst cw33
    refine lv_tableIn (tgt := 353) hx hb dX12_wordOf_1 (by decide) (by decide) rfl (by decide) ?_
    refine lv_bipush (v := 97) hx hb dX12_wordOf_353 (by decide) ?_
    refine lv_bipush (v := 119) hx hb dX12_wordOf_355 (by decide) ?_
    refine lv_bipush (v := 97) hx hb dX12_wordOf_357 (by decide) ?_
    refine lv_bipush (v := 121) hx hb dX12_wordOf_359 (by decide) ?_
    refine lv_iconst (v := 0) hx hb dX12_wordOf_361 (by decide) ?_
    refine lv_iconst (v := 0) hx hb dX12_wordOf_362 (by decide) ?_
    refine lv_iconst (v := 0) hx hb dX12_wordOf_363 (by decide) ?_
    refine va_calll (va_runS (As := [.int 97, .int 119, .int 97, .int 121, .int 0, .int 0, .int 0]) (rest := []) ⟨hx, hb, hml, hown, hts⟩ (f_spelt16 l dC dI ar cy _ hN st sl hG.1 ) (va_cwS 7 hts gX12_wordOf_X12_spelt rfl rfl rfl (by decide +kernel) ⟨Nat.le_of_ble_eq_true rfl, Nat.le_of_ble_eq_true rfl⟩) ⟨fun a U g mk q => ⟨q.1, mPre.blind q.2⟩, fun U hU hW => ⟨rfl, mPre.of hP hK hU hW⟩⟩ rfl rfl hl.1 rfl (lv_room (Nat.le_of_ble_eq_true rfl)) dX12_wordOf_364 ⟨Nat.le_of_ble_eq_true rfl, Nat.le_of_ble_eq_true rfl⟩) hS (fun q _ h => MA.le hS.1 q h) (MA.le hS.1) (fun r34 x t H locs ht hvm hw hB9 _ _ hS => ?_)
    have hP := mB.at ht hB9
    clear hB9 ht hvm
    obtain ⟨rfl, hw⟩ := hw
    have hP : va_P (dC, dI) vwCl (mw ar cy st sl) _ := hP
    obtain rfl := hw
    exact W.lret (v := 36502) hx hb hr (fun t ht hW => ⟨⟨36502, (st, sl), rfl, ⟨rfl, by decide +kernel⟩, mB.of ht hP⟩, hS.F ht⟩) hS.2.2 dX12_wordOf_367
  by_cases cw35 : va = 17
  · subst cw35
    refine lv_tableIn (tgt := 368) hx hb dX12_wordOf_1 (by decide) (by decide) rfl (by decide) ?_
    refine lv_bipush (v := 111) hx hb dX12_wordOf_368 (by decide) ?_
    refine lv_bipush (v := 119) hx hb dX12_wordOf_370 (by decide) ?_
    refine lv_bipush (v := 110) hx hb dX12_wordOf_372 (by decide) ?_
    refine lv_bipush (v := 101) hx hb dX12_wordOf_374 (by decide) ?_
    refine lv_bipush (v := 114) hx hb dX12_wordOf_376 (by decide) ?_
    refine lv_iconst (v := 0) hx hb dX12_wordOf_378 (by decide) ?_
    refine lv_iconst (v := 0) hx hb dX12_wordOf_379 (by decide) ?_
    refine va_calll (va_runS (As := [.int 111, .int 119, .int 110, .int 101, .int 114, .int 0, .int 0]) (rest := []) ⟨hx, hb, hml, hown, hts⟩ (f_spelt17 l dC dI ar cy _ hN st sl hG.1 ) (va_cwS 7 hts gX12_wordOf_X12_spelt rfl rfl rfl (by decide +kernel) ⟨Nat.le_of_ble_eq_true rfl, Nat.le_of_ble_eq_true rfl⟩) ⟨fun a U g mk q => ⟨q.1, mPre.blind q.2⟩, fun U hU hW => ⟨rfl, mPre.of hP hK hU hW⟩⟩ rfl rfl hl.1 rfl (lv_room (Nat.le_of_ble_eq_true rfl)) dX12_wordOf_380 ⟨Nat.le_of_ble_eq_true rfl, Nat.le_of_ble_eq_true rfl⟩) hS (fun q _ h => MA.le hS.1 q h) (MA.le hS.1) (fun r36 x t H locs ht hvm hw hB9 _ _ hS => ?_)
    have hP := mB.at ht hB9
    clear hB9 ht hvm
    obtain ⟨rfl, hw⟩ := hw
    have hP : va_P (dC, dI) vwCl (mw ar cy st sl) _ := hP
    obtain rfl := hw
    exact W.lret (v := 8434683) hx hb hr (fun t ht hW => ⟨⟨8434683, (st, sl), rfl, ⟨rfl, by decide +kernel⟩, mB.of ht hP⟩, hS.F ht⟩) hS.2.2 dX12_wordOf_383
  by_cases cw37 : va = 18
  · subst cw37
    refine lv_tableIn (tgt := 384) hx hb dX12_wordOf_1 (by decide) (by decide) rfl (by decide) ?_
    refine lv_bipush (v := 109) hx hb dX12_wordOf_384 (by decide) ?_
    refine lv_bipush (v := 101) hx hb dX12_wordOf_386 (by decide) ?_
    refine lv_bipush (v := 101) hx hb dX12_wordOf_388 (by decide) ?_
    refine lv_bipush (v := 116) hx hb dX12_wordOf_390 (by decide) ?_
    refine lv_bipush (v := 115) hx hb dX12_wordOf_392 (by decide) ?_
    refine lv_iconst (v := 0) hx hb dX12_wordOf_394 (by decide) ?_
    refine lv_iconst (v := 0) hx hb dX12_wordOf_395 (by decide) ?_
    refine va_calll (va_runS (As := [.int 109, .int 101, .int 101, .int 116, .int 115, .int 0, .int 0]) (rest := []) ⟨hx, hb, hml, hown, hts⟩ (f_spelt18 l dC dI ar cy _ hN st sl hG.1 ) (va_cwS 7 hts gX12_wordOf_X12_spelt rfl rfl rfl (by decide +kernel) ⟨Nat.le_of_ble_eq_true rfl, Nat.le_of_ble_eq_true rfl⟩) ⟨fun a U g mk q => ⟨q.1, mPre.blind q.2⟩, fun U hU hW => ⟨rfl, mPre.of hP hK hU hW⟩⟩ rfl rfl hl.1 rfl (lv_room (Nat.le_of_ble_eq_true rfl)) dX12_wordOf_396 ⟨Nat.le_of_ble_eq_true rfl, Nat.le_of_ble_eq_true rfl⟩) hS (fun q _ h => MA.le hS.1 q h) (MA.le hS.1) (fun r38 x t H locs ht hvm hw hB9 _ _ hS => ?_)
    have hP := mB.at ht hB9
    clear hB9 ht hvm
    obtain ⟨rfl, hw⟩ := hw
    have hP : va_P (dC, dI) vwCl (mw ar cy st sl) _ := hP
    obtain rfl := hw
    exact W.lret (v := 7011352) hx hb hr (fun t ht hW => ⟨⟨7011352, (st, sl), rfl, ⟨rfl, by decide +kernel⟩, mB.of ht hP⟩, hS.F ht⟩) hS.2.2 dX12_wordOf_399
  by_cases cw39 : va = 19
  · subst cw39
    refine lv_tableIn (tgt := 400) hx hb dX12_wordOf_1 (by decide) (by decide) rfl (by decide) ?_
    refine lv_bipush (v := 97) hx hb dX12_wordOf_400 (by decide) ?_
    refine lv_bipush (v := 116) hx hb dX12_wordOf_402 (by decide) ?_
    refine lv_iconst (v := 0) hx hb dX12_wordOf_404 (by decide) ?_
    refine lv_iconst (v := 0) hx hb dX12_wordOf_405 (by decide) ?_
    refine lv_iconst (v := 0) hx hb dX12_wordOf_406 (by decide) ?_
    refine lv_iconst (v := 0) hx hb dX12_wordOf_407 (by decide) ?_
    refine lv_iconst (v := 0) hx hb dX12_wordOf_408 (by decide) ?_
    refine va_calll (va_runS (As := [.int 97, .int 116, .int 0, .int 0, .int 0, .int 0, .int 0]) (rest := []) ⟨hx, hb, hml, hown, hts⟩ (f_spelt19 l dC dI ar cy _ hN st sl hG.1 ) (va_cwS 7 hts gX12_wordOf_X12_spelt rfl rfl rfl (by decide +kernel) ⟨Nat.le_of_ble_eq_true rfl, Nat.le_of_ble_eq_true rfl⟩) ⟨fun a U g mk q => ⟨q.1, mPre.blind q.2⟩, fun U hU hW => ⟨rfl, mPre.of hP hK hU hW⟩⟩ rfl rfl hl.1 rfl (lv_room (Nat.le_of_ble_eq_true rfl)) dX12_wordOf_409 ⟨Nat.le_of_ble_eq_true rfl, Nat.le_of_ble_eq_true rfl⟩) hS (fun q _ h => MA.le hS.1 q h) (MA.le hS.1) (fun r40 x t H locs ht hvm hw hB9 _ _ hS => ?_)
    have hP := mB.at ht hB9
    clear hB9 ht hvm
    obtain ⟨rfl, hw⟩ := hw
    have hP : va_P (dC, dI) vwCl (mw ar cy st sl) _ := hP
    obtain rfl := hw
    exact W.lret (v := 47) hx hb hr (fun t ht hW => ⟨⟨47, (st, sl), rfl, ⟨rfl, by decide +kernel⟩, mB.of ht hP⟩, hS.F ht⟩) hS.2.2 dX12_wordOf_412
  by_cases cw41 : va = 20
  · subst cw41
    refine lv_tableIn (tgt := 413) hx hb dX12_wordOf_1 (by decide) (by decide) rfl (by decide) ?_
    refine lv_bipush (v := 102) hx hb dX12_wordOf_413 (by decide) ?_
    refine lv_bipush (v := 114) hx hb dX12_wordOf_415 (by decide) ?_
    refine lv_bipush (v := 105) hx hb dX12_wordOf_417 (by decide) ?_
    refine lv_bipush (v := 103) hx hb dX12_wordOf_419 (by decide) ?_
    refine lv_bipush (v := 104) hx hb dX12_wordOf_421 (by decide) ?_
    refine lv_bipush (v := 116) hx hb dX12_wordOf_423 (by decide) ?_
    refine lv_bipush (v := 115) hx hb dX12_wordOf_425 (by decide) ?_
    refine va_calll (va_runS (As := [.int 102, .int 114, .int 105, .int 103, .int 104, .int 116, .int 115]) (rest := []) ⟨hx, hb, hml, hown, hts⟩ (f_spelt20 l dC dI ar cy _ hN st sl hG.1 ) (va_cwS 7 hts gX12_wordOf_X12_spelt rfl rfl rfl (by decide +kernel) ⟨Nat.le_of_ble_eq_true rfl, Nat.le_of_ble_eq_true rfl⟩) ⟨fun a U g mk q => ⟨q.1, mPre.blind q.2⟩, fun U hU hW => ⟨rfl, mPre.of hP hK hU hW⟩⟩ rfl rfl hl.1 rfl (lv_room (Nat.le_of_ble_eq_true rfl)) dX12_wordOf_427 ⟨Nat.le_of_ble_eq_true rfl, Nat.le_of_ble_eq_true rfl⟩) hS (fun q _ h => MA.le hS.1 q h) (MA.le hS.1) (fun r42 x t H locs ht hvm hw hB9 _ _ hS => ?_)
    have hP := mB.at ht hB9
    clear hB9 ht hvm
    obtain ⟨rfl, hw⟩ := hw
    have hP : va_P (dC, dI) vwCl (mw ar cy st sl) _ := hP
    obtain rfl := hw
    exact W.lret (v := 2587730401) hx hb hr (fun t ht hW => ⟨⟨2587730401, (st, sl), rfl, ⟨rfl, by decide +kernel⟩, mB.of ht hP⟩, hS.F ht⟩) hS.2.2 dX12_wordOf_430
  by_cases cw43 : va = 21
  · subst cw43
    refine lv_tableIn (tgt := 431) hx hb dX12_wordOf_1 (by decide) (by decide) rfl (by decide) ?_
    refine lv_bipush (v := 98) hx hb dX12_wordOf_431 (by decide) ?_
    refine lv_bipush (v := 105) hx hb dX12_wordOf_433 (by decide) ?_
    refine lv_bipush (v := 116) hx hb dX12_wordOf_435 (by decide) ?_
    refine lv_bipush (v := 101) hx hb dX12_wordOf_437 (by decide) ?_
    refine lv_bipush (v := 115) hx hb dX12_wordOf_439 (by decide) ?_
    refine lv_iconst (v := 0) hx hb dX12_wordOf_441 (by decide) ?_
    refine lv_iconst (v := 0) hx hb dX12_wordOf_442 (by decide) ?_
    refine va_calll (va_runS (As := [.int 98, .int 105, .int 116, .int 101, .int 115, .int 0, .int 0]) (rest := []) ⟨hx, hb, hml, hown, hts⟩ (f_spelt21 l dC dI ar cy _ hN st sl hG.1 ) (va_cwS 7 hts gX12_wordOf_X12_spelt rfl rfl rfl (by decide +kernel) ⟨Nat.le_of_ble_eq_true rfl, Nat.le_of_ble_eq_true rfl⟩) ⟨fun a U g mk q => ⟨q.1, mPre.blind q.2⟩, fun U hU hW => ⟨rfl, mPre.of hP hK hU hW⟩⟩ rfl rfl hl.1 rfl (lv_room (Nat.le_of_ble_eq_true rfl)) dX12_wordOf_443 ⟨Nat.le_of_ble_eq_true rfl, Nat.le_of_ble_eq_true rfl⟩) hS (fun q _ h => MA.le hS.1 q h) (MA.le hS.1) (fun r44 x t H locs ht hvm hw hB9 _ _ hS => ?_)
    have hP := mB.at ht hB9
    clear hB9 ht hvm
    obtain ⟨rfl, hw⟩ := hw
    have hP : va_P (dC, dI) vwCl (mw ar cy st sl) _ := hP
    obtain rfl := hw
    exact W.lret (v := 1254763) hx hb hr (fun t ht hW => ⟨⟨1254763, (st, sl), rfl, ⟨rfl, by decide +kernel⟩, mB.of ht hP⟩, hS.F ht⟩) hS.2.2 dX12_wordOf_446
  by_cases cw45 : va = 22
  · subst cw45
    refine lv_tableIn (tgt := 447) hx hb dX12_wordOf_1 (by decide) (by decide) rfl (by decide) ?_
    refine lv_bipush (v := 103) hx hb dX12_wordOf_447 (by decide) ?_
    refine lv_bipush (v := 111) hx hb dX12_wordOf_449 (by decide) ?_
    refine lv_bipush (v := 111) hx hb dX12_wordOf_451 (by decide) ?_
    refine lv_bipush (v := 100) hx hb dX12_wordOf_453 (by decide) ?_
    refine lv_iconst (v := 0) hx hb dX12_wordOf_455 (by decide) ?_
    refine lv_iconst (v := 0) hx hb dX12_wordOf_456 (by decide) ?_
    refine lv_iconst (v := 0) hx hb dX12_wordOf_457 (by decide) ?_
    refine va_calll (va_runS (As := [.int 103, .int 111, .int 111, .int 100, .int 0, .int 0, .int 0]) (rest := []) ⟨hx, hb, hml, hown, hts⟩ (f_spelt22 l dC dI ar cy _ hN st sl hG.1 ) (va_cwS 7 hts gX12_wordOf_X12_spelt rfl rfl rfl (by decide +kernel) ⟨Nat.le_of_ble_eq_true rfl, Nat.le_of_ble_eq_true rfl⟩) ⟨fun a U g mk q => ⟨q.1, mPre.blind q.2⟩, fun U hU hW => ⟨rfl, mPre.of hP hK hU hW⟩⟩ rfl rfl hl.1 rfl (lv_room (Nat.le_of_ble_eq_true rfl)) dX12_wordOf_458 ⟨Nat.le_of_ble_eq_true rfl, Nat.le_of_ble_eq_true rfl⟩) hS (fun q _ h => MA.le hS.1 q h) (MA.le hS.1) (fun r46 x t H locs ht hvm hw hB9 _ _ hS => ?_)
    have hP := mB.at ht hB9
    clear hB9 ht hvm
    obtain ⟨rfl, hw⟩ := hw
    have hP : va_P (dC, dI) vwCl (mw ar cy st sl) _ := hP
    obtain rfl := hw
    exact W.lret (v := 149125) hx hb hr (fun t ht hW => ⟨⟨149125, (st, sl), rfl, ⟨rfl, by decide +kernel⟩, mB.of ht hP⟩, hS.F ht⟩) hS.2.2 dX12_wordOf_461
  obtain rfl : va = 23 := by omega
  refine lv_tableOut (tgt := 462) hx hb dX12_wordOf_1 (by decide) (by decide) ?_
  refine lv_bipush (v := 110) hx hb dX12_wordOf_462 (by decide) ?_
  refine lv_bipush (v := 117) hx hb dX12_wordOf_464 (by decide) ?_
  refine lv_bipush (v := 109) hx hb dX12_wordOf_466 (by decide) ?_
  refine lv_bipush (v := 98) hx hb dX12_wordOf_468 (by decide) ?_
  refine lv_bipush (v := 101) hx hb dX12_wordOf_470 (by decide) ?_
  refine lv_bipush (v := 114) hx hb dX12_wordOf_472 (by decide) ?_
  refine lv_iconst (v := 0) hx hb dX12_wordOf_474 (by decide) ?_
  refine va_calll (va_runS (As := [.int 110, .int 117, .int 109, .int 98, .int 101, .int 114, .int 0]) (rest := []) ⟨hx, hb, hml, hown, hts⟩ (f_spelt23 l dC dI ar cy _ hN st sl hG.1 ) (va_cwS 7 hts gX12_wordOf_X12_spelt rfl rfl rfl (by decide +kernel) ⟨Nat.le_of_ble_eq_true rfl, Nat.le_of_ble_eq_true rfl⟩) ⟨fun a U g mk q => ⟨q.1, mPre.blind q.2⟩, fun U hU hW => ⟨rfl, mPre.of hP hK hU hW⟩⟩ rfl rfl hl.1 rfl (lv_room (Nat.le_of_ble_eq_true rfl)) dX12_wordOf_475 ⟨Nat.le_of_ble_eq_true rfl, Nat.le_of_ble_eq_true rfl⟩) hS (fun q _ h => MA.le hS.1 q h) (MA.le hS.1) (fun r48 x t H locs ht hvm hw hB9 _ _ hS => ?_)
  have hP := mB.at ht hB9
  clear hB9 ht hvm
  obtain ⟨rfl, hw⟩ := hw
  have hP : va_P (dC, dI) vwCl (mw ar cy st sl) _ := hP
  obtain rfl := hw
  exact W.lret (v := 212302449) hx hb hr (fun t ht hW => ⟨⟨212302449, (st, sl), rfl, ⟨rfl, by decide +kernel⟩, mB.of ht hP⟩, hS.F ht⟩) hS.2.2 dX12_wordOf_478
set_option maxHeartbeats 4000000 in
set_option maxRecDepth 100000 in
theorem f_isWord0 (l : Launch) (dC : Nat → ClassId) (dI : Nat → Nat → Nat) (ar : Nat → Nat) (cy : Nat → ClassId) (sz : Nat) (hN : MN ar) (st : Nat → Nat → Int32) (sl : Nat → Nat → Int64) (B : Nat → Nat) (g m : Nat) (p : Nat) (hI : MI st) (hB : MBt B g m st) (hT : TM B g m p st sl) : Met l yX12_isWord wsX12_isWord ({ frames := 2, cells := 0, slots := 0, locals := 48 }) (va_Pc [.ref (ar 0), .int 0] (mPre dC dI ar cy sz st sl)) (va_Qi (fun (r : Int32) (x : MT) => x = (st, sl) ∧ ((r = 1 ∧ tkw B g m p = 0) ∨ (r = 0 ∧ ¬ tkw B g m p = 0))) (mB dC dI ar cy) (MA ar sz)) 0 0 (MA ar sz) := by
  refine Met.ofW (cc := cX12_isWord) (maxL := 2) (ret := (some .boolean)) (by decide) rfl ?_
  intro p9 e s m9 args below meth c9 s₁ B9 hml hv
  obtain ⟨rfl, hsz, hP, hK⟩ := hv
  have hx := B9.exec
  have hb := B9.bytes
  have hr := B9.returns
  have hts := atoms_spec (ws := wsX12_isWord) B9.pre
  have hown : s.vm.findClass RX12 = some m9.cls := findClass_of_methodNamed B9.named
  subst hsz
  have hS : va_S (MA ar s.heap.size) s.heap s.heap [] := va_S.rf
  have hG : MG [1, 2, 3, 4, 5, 6, 7, 8, 9, 10, 11, 12, 13, 14, 15, 16, 17, 19, 20, 21, 22, 23] st st := MG.rf hI
  have hl := lv_entry ([.ref (ar 0), .int 0]) (n := 2) (Nat.le_of_ble_eq_true rfl)
  rw [lg_entry_eq]
  generalize (lg_sl ([.ref (ar 0), .int 0]) ++ List.replicate (2 - (lg_sl ([.ref (ar 0), .int 0])).length) Slot.unset).toArray = ls at hl ⊢
  have hl : lv_has ls 2 [(0, .ref (ar 0)), (1, .int 0)] := hl
  clear hI
  have hB1 := hB.2.2.1
  have hB2 := hB.2.2.2.1
  have hF : FM 0 st sl st sl := FM.rf
  have hp9 := hT.2.2.2.2.2.2
  have hk1 := tkd_lt (B := B) (g := g) (m := m) (p := p)
  have hk2 := tkx_le (B := B) (g := g) (m := m) (p := p) hp9
  have hk3 := tka_le (B := B) (g := g) (m := m) (p := p) hp9 hB.2.2.1
  have hk4 := tkv_lt (p := p) hB hp9
  have hk5 := tkw_lt (B := B) (g := g) (m := m) (p := p)
  refine lv_aload_n hx hb dX12_isWord_0 rfl (lv_at hl 0 rfl) ?_
  refine va_get (D := (dC, dI)) (ci := 11) (v := .int (st 0 7)) (C := RX12) (T := TX12) (N := 47) hx hb hts ii_X12_isWord hown hK hP 0 rfl rfl 7 (by decide) (hts _ mm_X12_isWord_1) (fun _ hh => hh) rfl dX12_isWord_1 ?_
  refine zz_top (v := (nI (tkd B g m p))) (by show st 0 7 = _; rw [hT.2.2.1]) ?_
  refine lv_iconst (v := 2) hx hb dX12_isWord_4 (by decide) ?_
  refine lv_icmp_ne (tgt := 24) hx hb dX12_isWord_5 (by decide) (fun c1 => ?_) (fun c1 => ?_)
  · have c1 : ¬ (tkd B g m p) = 2 := fun hh => c1 ((nI_eq (a := (tkd B g m p)) (b := 2) (by omega) (by omega)).mpr hh)
    refine lv_iconst (v := 0) hx hb dX12_isWord_24 (by decide) ?_
    exact W.zret (v := 0) hx hb hr rfl (fun t ht hW => ⟨⟨0, (st, sl), rfl, ⟨rfl, Or.inr (⟨rfl, by rw [tkw_n (by omega)]; omega⟩)⟩, mB.of ht hP⟩, hS.F ht⟩) hS.2.2 dX12_isWord_25
  · have c1 : (tkd B g m p) = 2 := (nI_eq (a := (tkd B g m p)) (b := 2) (by omega) (by omega)).mp c1
    refine lv_aload_n hx hb dX12_isWord_8 rfl (lv_at hl 0 rfl) ?_
    refine va_get (D := (dC, dI)) (ci := 11) (v := .long (sl 0 12)) (C := RX12) (T := TX12) (N := 47) hx hb hts ii_X12_isWord hown hK hP 0 rfl rfl 12 (by decide) (hts _ mm_X12_isWord_2) (fun _ hh => hh) rfl dX12_isWord_9 ?_
    refine lv_iload_n hx hb dX12_isWord_12 rfl (lv_at hl 1 rfl) ?_
    refine va_calll (va_runS (As := [.int 0]) (rest := [.long (sl 0 12)]) ⟨hx, hb, hml, hown, hts⟩ (f_wordOf0 l dC dI ar cy _ hN st sl hG.1 ) (va_cwS 1 hts gX12_isWord_X12_wordOf rfl rfl rfl (by decide +kernel) ⟨Nat.le_of_ble_eq_true rfl, Nat.le_of_ble_eq_true rfl⟩) ⟨fun a U g mk q => ⟨q.1, mPre.blind q.2⟩, fun U hU hW => ⟨rfl, mPre.of hP hK hU hW⟩⟩ rfl rfl hl.1 rfl (lv_room (Nat.le_of_ble_eq_true rfl)) dX12_isWord_13 ⟨Nat.le_of_ble_eq_true rfl, Nat.le_of_ble_eq_true rfl⟩) hS (fun q _ h => MA.le hS.1 q h) (MA.le hS.1) (fun r1 x t H locs ht hvm hw hB9 _ _ hS => ?_)
    have hP := mB.at ht hB9
    clear hB9 ht hvm
    obtain ⟨rfl, hw⟩ := hw
    have hP : va_P (dC, dI) vwCl (mw ar cy st sl) _ := hP
    obtain rfl := hw
    refine W.lcmp hx hb dX12_isWord_16 ?_
    refine lv_topi (fun z2 ez2 => ?_)
    refine lv_if_ne (tgt := 24) hx hb dX12_isWord_17 (by decide) (fun c2 => ?_) (fun c2 => ?_)
    · have c2 : ¬ (sl 0 12) = 8740067 := fun hh => c2 (by rw [ez2]; exact (lg_cmp_eq _ _).mpr hh)
      have c2 : ¬ tkw B g m p = 0 := fun hh => c2 ((tkw_k (p := p) (m := m) hp9 hB1 (by omega) (hT.2.2.2.2.2.1 (by omega)) (k := 0) (by decide) (w' := 8740067) (by decide +kernel)).mpr hh)
      refine lv_iconst (v := 0) hx hb dX12_isWord_24 (by decide) ?_
      exact W.zret (v := 0) hx hb hr rfl (fun t ht hW => ⟨⟨0, (st, sl), rfl, ⟨rfl, Or.inr (⟨rfl, by omega⟩)⟩, mB.of ht hP⟩, hS.F ht⟩) hS.2.2 dX12_isWord_25
    · have c2 : (sl 0 12) = 8740067 := (lg_cmp_eq _ _).mp (by rw [← ez2]; exact c2)
      have c2 : tkw B g m p = 0 := (tkw_k (p := p) (m := m) hp9 hB1 (by omega) (hT.2.2.2.2.2.1 (by omega)) (k := 0) (by decide) (w' := 8740067) (by decide +kernel)).mp c2
      refine lv_iconst (v := 1) hx hb dX12_isWord_20 (by decide) ?_
      refine lv_goto (tgt := 25) hx hb dX12_isWord_21 (by decide) ?_
      exact W.zret (v := 1) hx hb hr rfl (fun t ht hW => ⟨⟨1, (st, sl), rfl, ⟨rfl, Or.inl (⟨rfl, by omega⟩)⟩, mB.of ht hP⟩, hS.F ht⟩) hS.2.2 dX12_isWord_25
set_option maxHeartbeats 4000000 in
set_option maxRecDepth 100000 in
theorem f_isWord1 (l : Launch) (dC : Nat → ClassId) (dI : Nat → Nat → Nat) (ar : Nat → Nat) (cy : Nat → ClassId) (sz : Nat) (hN : MN ar) (st : Nat → Nat → Int32) (sl : Nat → Nat → Int64) (B : Nat → Nat) (g m : Nat) (p : Nat) (hI : MI st) (hB : MBt B g m st) (hT : TM B g m p st sl) : Met l yX12_isWord wsX12_isWord ({ frames := 2, cells := 0, slots := 0, locals := 48 }) (va_Pc [.ref (ar 0), .int 1] (mPre dC dI ar cy sz st sl)) (va_Qi (fun (r : Int32) (x : MT) => x = (st, sl) ∧ ((r = 1 ∧ tkw B g m p = 1) ∨ (r = 0 ∧ ¬ tkw B g m p = 1))) (mB dC dI ar cy) (MA ar sz)) 0 0 (MA ar sz) := by
  refine Met.ofW (cc := cX12_isWord) (maxL := 2) (ret := (some .boolean)) (by decide) rfl ?_
  intro p9 e s m9 args below meth c9 s₁ B9 hml hv
  obtain ⟨rfl, hsz, hP, hK⟩ := hv
  have hx := B9.exec
  have hb := B9.bytes
  have hr := B9.returns
  have hts := atoms_spec (ws := wsX12_isWord) B9.pre
  have hown : s.vm.findClass RX12 = some m9.cls := findClass_of_methodNamed B9.named
  subst hsz
  have hS : va_S (MA ar s.heap.size) s.heap s.heap [] := va_S.rf
  have hG : MG [1, 2, 3, 4, 5, 6, 7, 8, 9, 10, 11, 12, 13, 14, 15, 16, 17, 19, 20, 21, 22, 23] st st := MG.rf hI
  have hl := lv_entry ([.ref (ar 0), .int 1]) (n := 2) (Nat.le_of_ble_eq_true rfl)
  rw [lg_entry_eq]
  generalize (lg_sl ([.ref (ar 0), .int 1]) ++ List.replicate (2 - (lg_sl ([.ref (ar 0), .int 1])).length) Slot.unset).toArray = ls at hl ⊢
  have hl : lv_has ls 2 [(0, .ref (ar 0)), (1, .int 1)] := hl
  clear hI
  have hB1 := hB.2.2.1
  have hB2 := hB.2.2.2.1
  have hF : FM 0 st sl st sl := FM.rf
  have hp9 := hT.2.2.2.2.2.2
  have hk1 := tkd_lt (B := B) (g := g) (m := m) (p := p)
  have hk2 := tkx_le (B := B) (g := g) (m := m) (p := p) hp9
  have hk3 := tka_le (B := B) (g := g) (m := m) (p := p) hp9 hB.2.2.1
  have hk4 := tkv_lt (p := p) hB hp9
  have hk5 := tkw_lt (B := B) (g := g) (m := m) (p := p)
  refine lv_aload_n hx hb dX12_isWord_0 rfl (lv_at hl 0 rfl) ?_
  refine va_get (D := (dC, dI)) (ci := 11) (v := .int (st 0 7)) (C := RX12) (T := TX12) (N := 47) hx hb hts ii_X12_isWord hown hK hP 0 rfl rfl 7 (by decide) (hts _ mm_X12_isWord_1) (fun _ hh => hh) rfl dX12_isWord_1 ?_
  refine zz_top (v := (nI (tkd B g m p))) (by show st 0 7 = _; rw [hT.2.2.1]) ?_
  refine lv_iconst (v := 2) hx hb dX12_isWord_4 (by decide) ?_
  refine lv_icmp_ne (tgt := 24) hx hb dX12_isWord_5 (by decide) (fun c1 => ?_) (fun c1 => ?_)
  · have c1 : ¬ (tkd B g m p) = 2 := fun hh => c1 ((nI_eq (a := (tkd B g m p)) (b := 2) (by omega) (by omega)).mpr hh)
    refine lv_iconst (v := 0) hx hb dX12_isWord_24 (by decide) ?_
    exact W.zret (v := 0) hx hb hr rfl (fun t ht hW => ⟨⟨0, (st, sl), rfl, ⟨rfl, Or.inr (⟨rfl, by rw [tkw_n (by omega)]; omega⟩)⟩, mB.of ht hP⟩, hS.F ht⟩) hS.2.2 dX12_isWord_25
  · have c1 : (tkd B g m p) = 2 := (nI_eq (a := (tkd B g m p)) (b := 2) (by omega) (by omega)).mp c1
    refine lv_aload_n hx hb dX12_isWord_8 rfl (lv_at hl 0 rfl) ?_
    refine va_get (D := (dC, dI)) (ci := 11) (v := .long (sl 0 12)) (C := RX12) (T := TX12) (N := 47) hx hb hts ii_X12_isWord hown hK hP 0 rfl rfl 12 (by decide) (hts _ mm_X12_isWord_2) (fun _ hh => hh) rfl dX12_isWord_9 ?_
    refine lv_iload_n hx hb dX12_isWord_12 rfl (lv_at hl 1 rfl) ?_
    refine va_calll (va_runS (As := [.int 1]) (rest := [.long (sl 0 12)]) ⟨hx, hb, hml, hown, hts⟩ (f_wordOf1 l dC dI ar cy _ hN st sl hG.1 ) (va_cwS 1 hts gX12_isWord_X12_wordOf rfl rfl rfl (by decide +kernel) ⟨Nat.le_of_ble_eq_true rfl, Nat.le_of_ble_eq_true rfl⟩) ⟨fun a U g mk q => ⟨q.1, mPre.blind q.2⟩, fun U hU hW => ⟨rfl, mPre.of hP hK hU hW⟩⟩ rfl rfl hl.1 rfl (lv_room (Nat.le_of_ble_eq_true rfl)) dX12_isWord_13 ⟨Nat.le_of_ble_eq_true rfl, Nat.le_of_ble_eq_true rfl⟩) hS (fun q _ h => MA.le hS.1 q h) (MA.le hS.1) (fun r1 x t H locs ht hvm hw hB9 _ _ hS => ?_)
    have hP := mB.at ht hB9
    clear hB9 ht hvm
    obtain ⟨rfl, hw⟩ := hw
    have hP : va_P (dC, dI) vwCl (mw ar cy st sl) _ := hP
    obtain rfl := hw
    refine W.lcmp hx hb dX12_isWord_16 ?_
    refine lv_topi (fun z2 ez2 => ?_)
    refine lv_if_ne (tgt := 24) hx hb dX12_isWord_17 (by decide) (fun c2 => ?_) (fun c2 => ?_)
    · have c2 : ¬ (sl 0 12) = 89028535 := fun hh => c2 (by rw [ez2]; exact (lg_cmp_eq _ _).mpr hh)
      have c2 : ¬ tkw B g m p = 1 := fun hh => c2 ((tkw_k (p := p) (m := m) hp9 hB1 (by omega) (hT.2.2.2.2.2.1 (by omega)) (k := 1) (by decide) (w' := 89028535) (by decide +kernel)).mpr hh)
      refine lv_iconst (v := 0) hx hb dX12_isWord_24 (by decide) ?_
      exact W.zret (v := 0) hx hb hr rfl (fun t ht hW => ⟨⟨0, (st, sl), rfl, ⟨rfl, Or.inr (⟨rfl, by omega⟩)⟩, mB.of ht hP⟩, hS.F ht⟩) hS.2.2 dX12_isWord_25
    · have c2 : (sl 0 12) = 89028535 := (lg_cmp_eq _ _).mp (by rw [← ez2]; exact c2)
      have c2 : tkw B g m p = 1 := (tkw_k (p := p) (m := m) hp9 hB1 (by omega) (hT.2.2.2.2.2.1 (by omega)) (k := 1) (by decide) (w' := 89028535) (by decide +kernel)).mp c2
      refine lv_iconst (v := 1) hx hb dX12_isWord_20 (by decide) ?_
      refine lv_goto (tgt := 25) hx hb dX12_isWord_21 (by decide) ?_
      exact W.zret (v := 1) hx hb hr rfl (fun t ht hW => ⟨⟨1, (st, sl), rfl, ⟨rfl, Or.inl (⟨rfl, by omega⟩)⟩, mB.of ht hP⟩, hS.F ht⟩) hS.2.2 dX12_isWord_25
set_option maxHeartbeats 4000000 in
set_option maxRecDepth 100000 in
theorem f_isWord2 (l : Launch) (dC : Nat → ClassId) (dI : Nat → Nat → Nat) (ar : Nat → Nat) (cy : Nat → ClassId) (sz : Nat) (hN : MN ar) (st : Nat → Nat → Int32) (sl : Nat → Nat → Int64) (B : Nat → Nat) (g m : Nat) (p : Nat) (hI : MI st) (hB : MBt B g m st) (hT : TM B g m p st sl) : Met l yX12_isWord wsX12_isWord ({ frames := 2, cells := 0, slots := 0, locals := 48 }) (va_Pc [.ref (ar 0), .int 2] (mPre dC dI ar cy sz st sl)) (va_Qi (fun (r : Int32) (x : MT) => x = (st, sl) ∧ ((r = 1 ∧ tkw B g m p = 2) ∨ (r = 0 ∧ ¬ tkw B g m p = 2))) (mB dC dI ar cy) (MA ar sz)) 0 0 (MA ar sz) := by
  refine Met.ofW (cc := cX12_isWord) (maxL := 2) (ret := (some .boolean)) (by decide) rfl ?_
  intro p9 e s m9 args below meth c9 s₁ B9 hml hv
  obtain ⟨rfl, hsz, hP, hK⟩ := hv
  have hx := B9.exec
  have hb := B9.bytes
  have hr := B9.returns
  have hts := atoms_spec (ws := wsX12_isWord) B9.pre
  have hown : s.vm.findClass RX12 = some m9.cls := findClass_of_methodNamed B9.named
  subst hsz
  have hS : va_S (MA ar s.heap.size) s.heap s.heap [] := va_S.rf
  have hG : MG [1, 2, 3, 4, 5, 6, 7, 8, 9, 10, 11, 12, 13, 14, 15, 16, 17, 19, 20, 21, 22, 23] st st := MG.rf hI
  have hl := lv_entry ([.ref (ar 0), .int 2]) (n := 2) (Nat.le_of_ble_eq_true rfl)
  rw [lg_entry_eq]
  generalize (lg_sl ([.ref (ar 0), .int 2]) ++ List.replicate (2 - (lg_sl ([.ref (ar 0), .int 2])).length) Slot.unset).toArray = ls at hl ⊢
  have hl : lv_has ls 2 [(0, .ref (ar 0)), (1, .int 2)] := hl
  clear hI
  have hB1 := hB.2.2.1
  have hB2 := hB.2.2.2.1
  have hF : FM 0 st sl st sl := FM.rf
  have hp9 := hT.2.2.2.2.2.2
  have hk1 := tkd_lt (B := B) (g := g) (m := m) (p := p)
  have hk2 := tkx_le (B := B) (g := g) (m := m) (p := p) hp9
  have hk3 := tka_le (B := B) (g := g) (m := m) (p := p) hp9 hB.2.2.1
  have hk4 := tkv_lt (p := p) hB hp9
  have hk5 := tkw_lt (B := B) (g := g) (m := m) (p := p)
  refine lv_aload_n hx hb dX12_isWord_0 rfl (lv_at hl 0 rfl) ?_
  refine va_get (D := (dC, dI)) (ci := 11) (v := .int (st 0 7)) (C := RX12) (T := TX12) (N := 47) hx hb hts ii_X12_isWord hown hK hP 0 rfl rfl 7 (by decide) (hts _ mm_X12_isWord_1) (fun _ hh => hh) rfl dX12_isWord_1 ?_
  refine zz_top (v := (nI (tkd B g m p))) (by show st 0 7 = _; rw [hT.2.2.1]) ?_
  refine lv_iconst (v := 2) hx hb dX12_isWord_4 (by decide) ?_
  refine lv_icmp_ne (tgt := 24) hx hb dX12_isWord_5 (by decide) (fun c1 => ?_) (fun c1 => ?_)
  · have c1 : ¬ (tkd B g m p) = 2 := fun hh => c1 ((nI_eq (a := (tkd B g m p)) (b := 2) (by omega) (by omega)).mpr hh)
    refine lv_iconst (v := 0) hx hb dX12_isWord_24 (by decide) ?_
    exact W.zret (v := 0) hx hb hr rfl (fun t ht hW => ⟨⟨0, (st, sl), rfl, ⟨rfl, Or.inr (⟨rfl, by rw [tkw_n (by omega)]; omega⟩)⟩, mB.of ht hP⟩, hS.F ht⟩) hS.2.2 dX12_isWord_25
  · have c1 : (tkd B g m p) = 2 := (nI_eq (a := (tkd B g m p)) (b := 2) (by omega) (by omega)).mp c1
    refine lv_aload_n hx hb dX12_isWord_8 rfl (lv_at hl 0 rfl) ?_
    refine va_get (D := (dC, dI)) (ci := 11) (v := .long (sl 0 12)) (C := RX12) (T := TX12) (N := 47) hx hb hts ii_X12_isWord hown hK hP 0 rfl rfl 12 (by decide) (hts _ mm_X12_isWord_2) (fun _ hh => hh) rfl dX12_isWord_9 ?_
    refine lv_iload_n hx hb dX12_isWord_12 rfl (lv_at hl 1 rfl) ?_
    refine va_calll (va_runS (As := [.int 2]) (rest := [.long (sl 0 12)]) ⟨hx, hb, hml, hown, hts⟩ (f_wordOf2 l dC dI ar cy _ hN st sl hG.1 ) (va_cwS 1 hts gX12_isWord_X12_wordOf rfl rfl rfl (by decide +kernel) ⟨Nat.le_of_ble_eq_true rfl, Nat.le_of_ble_eq_true rfl⟩) ⟨fun a U g mk q => ⟨q.1, mPre.blind q.2⟩, fun U hU hW => ⟨rfl, mPre.of hP hK hU hW⟩⟩ rfl rfl hl.1 rfl (lv_room (Nat.le_of_ble_eq_true rfl)) dX12_isWord_13 ⟨Nat.le_of_ble_eq_true rfl, Nat.le_of_ble_eq_true rfl⟩) hS (fun q _ h => MA.le hS.1 q h) (MA.le hS.1) (fun r1 x t H locs ht hvm hw hB9 _ _ hS => ?_)
    have hP := mB.at ht hB9
    clear hB9 ht hvm
    obtain ⟨rfl, hw⟩ := hw
    have hP : va_P (dC, dI) vwCl (mw ar cy st sl) _ := hP
    obtain rfl := hw
    refine W.lcmp hx hb dX12_isWord_16 ?_
    refine lv_topi (fun z2 ez2 => ?_)
    refine lv_if_ne (tgt := 24) hx hb dX12_isWord_17 (by decide) (fun c2 => ?_) (fun c2 => ?_)
    · have c2 : ¬ (sl 0 12) = 232608281 := fun hh => c2 (by rw [ez2]; exact (lg_cmp_eq _ _).mpr hh)
      have c2 : ¬ tkw B g m p = 2 := fun hh => c2 ((tkw_k (p := p) (m := m) hp9 hB1 (by omega) (hT.2.2.2.2.2.1 (by omega)) (k := 2) (by decide) (w' := 232608281) (by decide +kernel)).mpr hh)
      refine lv_iconst (v := 0) hx hb dX12_isWord_24 (by decide) ?_
      exact W.zret (v := 0) hx hb hr rfl (fun t ht hW => ⟨⟨0, (st, sl), rfl, ⟨rfl, Or.inr (⟨rfl, by omega⟩)⟩, mB.of ht hP⟩, hS.F ht⟩) hS.2.2 dX12_isWord_25
    · have c2 : (sl 0 12) = 232608281 := (lg_cmp_eq _ _).mp (by rw [← ez2]; exact c2)
      have c2 : tkw B g m p = 2 := (tkw_k (p := p) (m := m) hp9 hB1 (by omega) (hT.2.2.2.2.2.1 (by omega)) (k := 2) (by decide) (w' := 232608281) (by decide +kernel)).mp c2
      refine lv_iconst (v := 1) hx hb dX12_isWord_20 (by decide) ?_
      refine lv_goto (tgt := 25) hx hb dX12_isWord_21 (by decide) ?_
      exact W.zret (v := 1) hx hb hr rfl (fun t ht hW => ⟨⟨1, (st, sl), rfl, ⟨rfl, Or.inl (⟨rfl, by omega⟩)⟩, mB.of ht hP⟩, hS.F ht⟩) hS.2.2 dX12_isWord_25
set_option maxHeartbeats 4000000 in
set_option maxRecDepth 100000 in
theorem f_isWord3 (l : Launch) (dC : Nat → ClassId) (dI : Nat → Nat → Nat) (ar : Nat → Nat) (cy : Nat → ClassId) (sz : Nat) (hN : MN ar) (st : Nat → Nat → Int32) (sl : Nat → Nat → Int64) (B : Nat → Nat) (g m : Nat) (p : Nat) (hI : MI st) (hB : MBt B g m st) (hT : TM B g m p st sl) : Met l yX12_isWord wsX12_isWord ({ frames := 2, cells := 0, slots := 0, locals := 48 }) (va_Pc [.ref (ar 0), .int 3] (mPre dC dI ar cy sz st sl)) (va_Qi (fun (r : Int32) (x : MT) => x = (st, sl) ∧ ((r = 1 ∧ tkw B g m p = 3) ∨ (r = 0 ∧ ¬ tkw B g m p = 3))) (mB dC dI ar cy) (MA ar sz)) 0 0 (MA ar sz) := by
  refine Met.ofW (cc := cX12_isWord) (maxL := 2) (ret := (some .boolean)) (by decide) rfl ?_
  intro p9 e s m9 args below meth c9 s₁ B9 hml hv
  obtain ⟨rfl, hsz, hP, hK⟩ := hv
  have hx := B9.exec
  have hb := B9.bytes
  have hr := B9.returns
  have hts := atoms_spec (ws := wsX12_isWord) B9.pre
  have hown : s.vm.findClass RX12 = some m9.cls := findClass_of_methodNamed B9.named
  subst hsz
  have hS : va_S (MA ar s.heap.size) s.heap s.heap [] := va_S.rf
  have hG : MG [1, 2, 3, 4, 5, 6, 7, 8, 9, 10, 11, 12, 13, 14, 15, 16, 17, 19, 20, 21, 22, 23] st st := MG.rf hI
  have hl := lv_entry ([.ref (ar 0), .int 3]) (n := 2) (Nat.le_of_ble_eq_true rfl)
  rw [lg_entry_eq]
  generalize (lg_sl ([.ref (ar 0), .int 3]) ++ List.replicate (2 - (lg_sl ([.ref (ar 0), .int 3])).length) Slot.unset).toArray = ls at hl ⊢
  have hl : lv_has ls 2 [(0, .ref (ar 0)), (1, .int 3)] := hl
  clear hI
  have hB1 := hB.2.2.1
  have hB2 := hB.2.2.2.1
  have hF : FM 0 st sl st sl := FM.rf
  have hp9 := hT.2.2.2.2.2.2
  have hk1 := tkd_lt (B := B) (g := g) (m := m) (p := p)
  have hk2 := tkx_le (B := B) (g := g) (m := m) (p := p) hp9
  have hk3 := tka_le (B := B) (g := g) (m := m) (p := p) hp9 hB.2.2.1
  have hk4 := tkv_lt (p := p) hB hp9
  have hk5 := tkw_lt (B := B) (g := g) (m := m) (p := p)
  refine lv_aload_n hx hb dX12_isWord_0 rfl (lv_at hl 0 rfl) ?_
  refine va_get (D := (dC, dI)) (ci := 11) (v := .int (st 0 7)) (C := RX12) (T := TX12) (N := 47) hx hb hts ii_X12_isWord hown hK hP 0 rfl rfl 7 (by decide) (hts _ mm_X12_isWord_1) (fun _ hh => hh) rfl dX12_isWord_1 ?_
  refine zz_top (v := (nI (tkd B g m p))) (by show st 0 7 = _; rw [hT.2.2.1]) ?_
  refine lv_iconst (v := 2) hx hb dX12_isWord_4 (by decide) ?_
  refine lv_icmp_ne (tgt := 24) hx hb dX12_isWord_5 (by decide) (fun c1 => ?_) (fun c1 => ?_)
  · have c1 : ¬ (tkd B g m p) = 2 := fun hh => c1 ((nI_eq (a := (tkd B g m p)) (b := 2) (by omega) (by omega)).mpr hh)
    refine lv_iconst (v := 0) hx hb dX12_isWord_24 (by decide) ?_
    exact W.zret (v := 0) hx hb hr rfl (fun t ht hW => ⟨⟨0, (st, sl), rfl, ⟨rfl, Or.inr (⟨rfl, by rw [tkw_n (by omega)]; omega⟩)⟩, mB.of ht hP⟩, hS.F ht⟩) hS.2.2 dX12_isWord_25
  · have c1 : (tkd B g m p) = 2 := (nI_eq (a := (tkd B g m p)) (b := 2) (by omega) (by omega)).mp c1
    refine lv_aload_n hx hb dX12_isWord_8 rfl (lv_at hl 0 rfl) ?_
    refine va_get (D := (dC, dI)) (ci := 11) (v := .long (sl 0 12)) (C := RX12) (T := TX12) (N := 47) hx hb hts ii_X12_isWord hown hK hP 0 rfl rfl 12 (by decide) (hts _ mm_X12_isWord_2) (fun _ hh => hh) rfl dX12_isWord_9 ?_
    refine lv_iload_n hx hb dX12_isWord_12 rfl (lv_at hl 1 rfl) ?_
    refine va_calll (va_runS (As := [.int 3]) (rest := [.long (sl 0 12)]) ⟨hx, hb, hml, hown, hts⟩ (f_wordOf3 l dC dI ar cy _ hN st sl hG.1 ) (va_cwS 1 hts gX12_isWord_X12_wordOf rfl rfl rfl (by decide +kernel) ⟨Nat.le_of_ble_eq_true rfl, Nat.le_of_ble_eq_true rfl⟩) ⟨fun a U g mk q => ⟨q.1, mPre.blind q.2⟩, fun U hU hW => ⟨rfl, mPre.of hP hK hU hW⟩⟩ rfl rfl hl.1 rfl (lv_room (Nat.le_of_ble_eq_true rfl)) dX12_isWord_13 ⟨Nat.le_of_ble_eq_true rfl, Nat.le_of_ble_eq_true rfl⟩) hS (fun q _ h => MA.le hS.1 q h) (MA.le hS.1) (fun r1 x t H locs ht hvm hw hB9 _ _ hS => ?_)
    have hP := mB.at ht hB9
    clear hB9 ht hvm
    obtain ⟨rfl, hw⟩ := hw
    have hP : va_P (dC, dI) vwCl (mw ar cy st sl) _ := hP
    obtain rfl := hw
    refine W.lcmp hx hb dX12_isWord_16 ?_
    refine lv_topi (fun z2 ez2 => ?_)
    refine lv_if_ne (tgt := 24) hx hb dX12_isWord_17 (by decide) (fun c2 => ?_) (fun c2 => ?_)
    · have c2 : ¬ (sl 0 12) = 3328 := fun hh => c2 (by rw [ez2]; exact (lg_cmp_eq _ _).mpr hh)
      have c2 : ¬ tkw B g m p = 3 := fun hh => c2 ((tkw_k (p := p) (m := m) hp9 hB1 (by omega) (hT.2.2.2.2.2.1 (by omega)) (k := 3) (by decide) (w' := 3328) (by decide +kernel)).mpr hh)
      refine lv_iconst (v := 0) hx hb dX12_isWord_24 (by decide) ?_
      exact W.zret (v := 0) hx hb hr rfl (fun t ht hW => ⟨⟨0, (st, sl), rfl, ⟨rfl, Or.inr (⟨rfl, by omega⟩)⟩, mB.of ht hP⟩, hS.F ht⟩) hS.2.2 dX12_isWord_25
    · have c2 : (sl 0 12) = 3328 := (lg_cmp_eq _ _).mp (by rw [← ez2]; exact c2)
      have c2 : tkw B g m p = 3 := (tkw_k (p := p) (m := m) hp9 hB1 (by omega) (hT.2.2.2.2.2.1 (by omega)) (k := 3) (by decide) (w' := 3328) (by decide +kernel)).mp c2
      refine lv_iconst (v := 1) hx hb dX12_isWord_20 (by decide) ?_
      refine lv_goto (tgt := 25) hx hb dX12_isWord_21 (by decide) ?_
      exact W.zret (v := 1) hx hb hr rfl (fun t ht hW => ⟨⟨1, (st, sl), rfl, ⟨rfl, Or.inl (⟨rfl, by omega⟩)⟩, mB.of ht hP⟩, hS.F ht⟩) hS.2.2 dX12_isWord_25
