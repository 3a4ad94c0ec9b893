set_option maxHeartbeats 4000000 in
set_option maxRecDepth 100000 in
theorem x_J0_coder_7d493 (l : Launch) (dC : Nat → ClassId) (dI : Nat → Nat → Nat) (ad : Nat → Nat) (E : EP) (hEE : EC ad E) (A : Nat → Nat) (C : Nat → ClassId) (nb sz : Nat) (hN : XN A) (st : Nat → Nat → Int32) (sl : Nat → Nat → Int64) (so : Nat → XR) (si : Nat) (hsi : si < 30) (hI : XI st) : Met l yJ0_coder_7d493 wsJ0_coder_7d493 ({ frames := 0, cells := 0, slots := 0, locals := 0 }) (va_Pc [.ref (ad (100 + si))] (xPre E dC dI A C nb sz st sl so)) (va_Qi (fun (r : Int32) (x : XT) => x = (st, sl, so) ∧ (r = 0)) (xB dC dI A C nb) (XA A sz)) 0 0 (XA A sz) := by
  refine Met.ofW (cc := cJ0_coder_7d493) (maxL := 1) (ret := (some .byte)) (by decide) rfl ?_
  intro p e s m args below meth c s₁ B hml hv
  obtain ⟨rfl, hsz, hP, hK, hE⟩ := hv
  have hx := B.exec
  have hb := B.bytes
  have hr := B.returns
  have hts := atoms_spec (ws := wsJ0_coder_7d493) B.pre
  have hown : s.vm.findClass RJ0 = some m.cls := findClass_of_methodNamed B.named
  subst hsz
  have hEv := hEE.1 _ _ _ hE
  have hS : va_S (XA A s.heap.size) s.heap s.heap [] := va_S.rf
  have hG : XG [1, 2, 3, 4, 5, 6, 7, 8, 9, 10, 11, 12, 13, 14, 15] st st := XG.rf hI
  have hl := lv_entry ([.ref (ad (100 + si))]) (n := 1) (Nat.le_of_ble_eq_true rfl)
  rw [lg_entry_eq]
  generalize (lg_sl ([.ref (ad (100 + si))]) ++ List.replicate (1 - (lg_sl ([.ref (ad (100 + si))])).length) Slot.unset).toArray = ls at hl ⊢
  have hl : lv_has ls 1 [(0, .ref (ad (100 + si)))] := hl
  refine va_gets (v := .int 1) hx hb (EV.compact hEv) hS hown (hts _ mm_J0_coder_7d493_1) (fun _ hh => hh) dJ0_coder_7d493_0 ?_
  refine lv_if_eq (tgt := 13) hx hb dJ0_coder_7d493_3 (by decide) (fun cc => absurd cc (by decide)) (fun _ => ?_)
  refine lv_aload_n hx hb dJ0_coder_7d493_6 rfl (lv_at hl 0 rfl) ?_
  refine vk_getf (v := .int 0) hx hb (hEv.sv.2.1 si (by omega)).2.1 hS hown (hts _ mm_J0_coder_7d493_2) (fun _ hh => hh) dJ0_coder_7d493_7 ?_
  refine lv_goto (tgt := 14) hx hb dJ0_coder_7d493_10 (by decide) ?_
  exact W.zret (v := 0) hx hb hr rfl (fun t ht hW => ⟨⟨0, (st, sl, so), rfl, ⟨rfl, rfl⟩, xB.of ht hP⟩, hS.F ht⟩) hS.2.2 dJ0_coder_7d493_14
set_option maxHeartbeats 4000000 in
set_option maxRecDepth 100000 in
theorem x_J0_isLatin1_aae02 (l : Launch) (dC : Nat → ClassId) (dI : Nat → Nat → Nat) (ad : Nat → Nat) (E : EP) (hEE : EC ad E) (A : Nat → Nat) (C : Nat → ClassId) (nb sz : Nat) (hN : XN A) (st : Nat → Nat → Int32) (sl : Nat → Nat → Int64) (so : Nat → XR) (si : Nat) (hsi : si < 30) (hI : XI st) : Met l yJ0_isLatin1_aae02 wsJ0_isLatin1_aae02 ({ frames := 0, cells := 0, slots := 0, locals := 0 }) (va_Pc [.ref (ad (100 + si))] (xPre E dC dI A C nb sz st sl so)) (va_Qi (fun (r : Int32) (x : XT) => x = (st, sl, so) ∧ (r = 1)) (xB dC dI A C nb) (XA A sz)) 0 0 (XA A sz) := by
  refine Met.ofW (cc := cJ0_isLatin1_aae02) (maxL := 1) (ret := (some .boolean)) (by decide) rfl ?_
  intro p e s m args below meth c s₁ B hml hv
  obtain ⟨rfl, hsz, hP, hK, hE⟩ := hv
  have hx := B.exec
  have hb := B.bytes
  have hr := B.returns
  have hts := atoms_spec (ws := wsJ0_isLatin1_aae02) B.pre
  have hown : s.vm.findClass RJ0 = some m.cls := findClass_of_methodNamed B.named
  subst hsz
  have hEv := hEE.1 _ _ _ hE
  have hS : va_S (XA A s.heap.size) s.heap s.heap [] := va_S.rf
  have hG : XG [1, 2, 3, 4, 5, 6, 7, 8, 9, 10, 11, 12, 13, 14, 15] st st := XG.rf hI
  have hl := lv_entry ([.ref (ad (100 + si))]) (n := 1) (Nat.le_of_ble_eq_true rfl)
  rw [lg_entry_eq]
  generalize (lg_sl ([.ref (ad (100 + si))]) ++ List.replicate (1 - (lg_sl ([.ref (ad (100 + si))])).length) Slot.unset).toArray = ls at hl ⊢
  have hl : lv_has ls 1 [(0, .ref (ad (100 + si)))] := hl
  refine va_gets (v := .int 1) hx hb (EV.compact hEv) hS hown (hts _ mm_J0_isLatin1_aae02_1) (fun _ hh => hh) dJ0_isLatin1_aae02_0 ?_
  refine lv_if_eq (tgt := 17) hx hb dJ0_isLatin1_aae02_3 (by decide) (fun cc => absurd cc (by decide)) (fun _ => ?_)
  refine lv_aload_n hx hb dJ0_isLatin1_aae02_6 rfl (lv_at hl 0 rfl) ?_
  refine vk_getf (v := .int 0) hx hb (hEv.sv.2.1 si (by omega)).2.1 hS hown (hts _ mm_J0_isLatin1_aae02_2) (fun _ hh => hh) dJ0_isLatin1_aae02_7 ?_
  refine lv_if_ne (tgt := 17) hx hb dJ0_isLatin1_aae02_10 (by decide) (fun cc => absurd (by decide) cc) (fun _ => ?_)
  refine lv_iconst (v := 1) hx hb dJ0_isLatin1_aae02_13 (by decide) ?_
  refine lv_goto (tgt := 18) hx hb dJ0_isLatin1_aae02_14 (by decide) ?_
  exact W.zret (v := 1) hx hb hr rfl (fun t ht hW => ⟨⟨1, (st, sl, so), rfl, ⟨rfl, rfl⟩, xB.of ht hP⟩, hS.F ht⟩) hS.2.2 dJ0_isLatin1_aae02_18
set_option maxHeartbeats 4000000 in
set_option maxRecDepth 100000 in
theorem x_J0_length_8abf5 (l : Launch) (dC : Nat → ClassId) (dI : Nat → Nat → Nat) (ad : Nat → Nat) (E : EP) (hEE : EC ad E) (A : Nat → Nat) (C : Nat → ClassId) (nb sz : Nat) (hN : XN A) (st : Nat → Nat → Int32) (sl : Nat → Nat → Int64) (so : Nat → XR) (si : Nat) (hsi : si < 30) (hI : XI st) : Met l yJ0_length_8abf5 wsJ0_length_8abf5 ({ frames := 1, cells := 0, slots := 0, locals := 20 }) (va_Pc [.ref (ad (100 + si))] (xPre E dC dI A C nb sz st sl so)) (va_Qi (fun (r : Int32) (x : XT) => x = (st, sl, so) ∧ (∃ n : Nat, r = nI n ∧ n = sv_len.getD si 0 ∧ n < 13)) (xB dC dI A C nb) (XA A sz)) 0 0 (XA A sz) := by
  refine Met.ofW (cc := cJ0_length_8abf5) (maxL := 1) (ret := (some .int)) (by decide) rfl ?_
  intro p e s m args below meth c s₁ B hml hv
  obtain ⟨rfl, hsz, hP, hK, hE⟩ := hv
  have hx := B.exec
  have hb := B.bytes
  have hr := B.returns
  have hts := atoms_spec (ws := wsJ0_length_8abf5) B.pre
  have hown : s.vm.findClass RJ0 = some m.cls := findClass_of_methodNamed B.named
  subst hsz
  have hEv := hEE.1 _ _ _ hE
  have hS : va_S (XA A s.heap.size) s.heap s.heap [] := va_S.rf
  have hG : XG [1, 2, 3, 4, 5, 6, 7, 8, 9, 10, 11, 12, 13, 14, 15] st st := XG.rf hI
  have hl := lv_entry ([.ref (ad (100 + si))]) (n := 1) (Nat.le_of_ble_eq_true rfl)
  rw [lg_entry_eq]
  generalize (lg_sl ([.ref (ad (100 + si))]) ++ List.replicate (1 - (lg_sl ([.ref (ad (100 + si))])).length) Slot.unset).toArray = ls at hl ⊢
  have hl : lv_has ls 1 [(0, .ref (ad (100 + si)))] := hl
  refine lv_aload_n hx hb dJ0_length_8abf5_0 rfl (lv_at hl 0 rfl) ?_
  refine vk_getf (v := .ref (ad (200 + si))) hx hb (hEv.sv.2.1 si (by omega)).2.2.1 hS hown (hts _ mm_J0_length_8abf5_1) (fun _ hh => hh) dJ0_length_8abf5_1 ?_
  refine va_tlen (v := nI (sv_len.getD si 0)) hx hb (hEv.sv.2.1 si (by omega)).2.2.2 hS rfl dJ0_length_8abf5_4 ?_
  have hql1 := sv_lt si
  refine lv_aload_n hx hb dJ0_length_8abf5_5 rfl (lv_at hl 0 rfl) ?_
  refine va_calli (va_runV (As := []) (rest := [.int (nI (sv_len.getD si 0))]) ⟨hx, hb, hml, hown, hts⟩ (x_J0_coder_7d493 l dC dI ad E hEE A C nb _ hN st sl so si (by omega) hG.1) (cwV 0 hts gJ0_length_8abf5_J0_coder_7d493 rfl rfl rfl (by decide +kernel) ⟨Nat.le_of_ble_eq_true rfl, Nat.le_of_ble_eq_true rfl⟩) ⟨fun a U g mk q => ⟨q.1, xPre.blind hEE q.2⟩, SV.recv hEv.sv hS (i := si) (by omega), fun U hU hW => ⟨rfl, xPre.of hEE hP hK hE hS hU hW⟩⟩ rfl rfl hl.1 rfl (lv_room (Nat.le_of_ble_eq_true rfl)) dJ0_length_8abf5_6 ⟨Nat.le_of_ble_eq_true rfl, Nat.le_of_ble_eq_true rfl⟩) hS (fun q _ h => XA.le hS.1 q h) (XA.le hS.1) (fun r2 x t H locs ht hvm hw hB _ _ hS => ?_)
  have hP := xB.at ht hB
  clear hB ht hvm
  obtain ⟨rfl, hw⟩ := hw
  have hP : va_P (dC, dI) vwCl (xw A C nb st sl so) _ := hP
  obtain rfl := hw
  refine lv_ishr hx hb dJ0_length_8abf5_9 ?_
  refine zz_top (v := (nI (sv_len.getD si 0))) (sb_shr0 _) ?_
  exact W.iret (v := (nI (sv_len.getD si 0))) hx hb hr (fun t ht hW => ⟨⟨(nI (sv_len.getD si 0)), (st, sl, so), rfl, ⟨rfl, ⟨(sv_len.getD si 0), rfl, rfl, by omega⟩⟩, xB.of ht hP⟩, hS.F ht⟩) hS.2.2 dJ0_length_8abf5_10
set_option maxHeartbeats 4000000 in
set_option maxRecDepth 100000 in
theorem x_checkIndexN (l : Launch) (dC : Nat → ClassId) (dI : Nat → Nat → Nat) (ad : Nat → Nat) (E : EP) (hEE : EC ad E) (A : Nat → Nat) (C : Nat → ClassId) (nb sz : Nat) (hN : XN A) (st : Nat → Nat → Int32) (sl : Nat → Nat → Int64) (so : Nat → XR) (va : Nat) (vb : Nat) (hva : va < 2147483648) (hvb : vb < 2147483648) (hI : XI st) (hab : va < vb) : Met l yJ3_checkIndex_8e157 wsJ3_checkIndex_8e157 ({ frames := 0, cells := 0, slots := 0, locals := 0 }) (va_Pc [.int (nI va), .int (nI vb), .null] (xPre E dC dI A C nb sz st sl so)) (va_Qi (fun (r : Int32) (x : XT) => x = (st, sl, so) ∧ (True)) (xB dC dI A C nb) (XA A sz)) 0 0 (XA A sz) := by
  refine Met.ofW (cc := cJ3_checkIndex_8e157) (maxL := 3) (ret := (some .int)) (by decide) rfl ?_
  intro p e s m args below meth c s₁ B hml hv
  obtain ⟨rfl, hsz, hP, hK, hE⟩ := hv
  have hx := B.exec
  have hb := B.bytes
  have hr := B.returns
  have hts := atoms_spec (ws := wsJ3_checkIndex_8e157) B.pre
  have hown : s.vm.findClass RJ3 = some m.cls := findClass_of_methodNamed B.named
  subst hsz
  have hEv := hEE.1 _ _ _ hE
  have hS : va_S (XA A s.heap.size) s.heap s.heap [] := va_S.rf
  have hG : XG [1, 2, 3, 4, 5, 6, 7, 8, 9, 10, 11, 12, 13, 14, 15] st st := XG.rf hI
  have hl := lv_entry ([.int (nI va), .int (nI vb), .null]) (n := 3) (Nat.le_of_ble_eq_true rfl)
  rw [lg_entry_eq]
  generalize (lg_sl ([.int (nI va), .int (nI vb), .null]) ++ List.replicate (3 - (lg_sl ([.int (nI va), .int (nI vb), .null])).length) Slot.unset).toArray = ls at hl ⊢
  have hl : lv_has ls 3 [(0, .int (nI va)), (1, .int (nI vb)), (2, .null)] := hl
  refine lv_iload_n hx hb dJ3_checkIndex_8e157_0 rfl (lv_at hl 0 rfl) ?_
  refine lv_if_lt (tgt := 9) hx hb dJ3_checkIndex_8e157_1 (by decide) (fun cc => absurd ((nI_ltI (a := va) (b := 0) (by omega) (by omega)).mp cc) (by omega)) (fun _ => ?_)
  refine lv_iload_n hx hb dJ3_checkIndex_8e157_4 rfl (lv_at hl 0 rfl) ?_
  refine lv_iload_n hx hb dJ3_checkIndex_8e157_5 rfl (lv_at hl 1 rfl) ?_
  refine lv_icmp_lt (tgt := 16) hx hb dJ3_checkIndex_8e157_6 (by decide) (fun c2 => ?_) (fun c2 => ?_)
  · have c2 : va < vb := (nI_ltI (a := va) (b := vb) (by omega) (by omega)).mp c2
    refine lv_iload_n hx hb dJ3_checkIndex_8e157_16 rfl (lv_at hl 0 rfl) ?_
    exact W.iret (v := (nI va)) hx hb hr (fun t ht hW => ⟨⟨(nI va), (st, sl, so), rfl, ⟨rfl, trivial⟩, xB.of ht hP⟩, hS.F ht⟩) hS.2.2 dJ3_checkIndex_8e157_17
  · have c2 : ¬ va < vb := fun hh => c2 ((nI_ltI (a := va) (b := vb) (by omega) (by omega)).mpr hh)
    exact absurd hab (by omega)
set_option maxHeartbeats 4000000 in
set_option maxRecDepth 100000 in
theorem x_checkIndexR (l : Launch) (dC : Nat → ClassId) (dI : Nat → Nat → Nat) (ad : Nat → Nat) (E : EP) (hEE : EC ad E) (A : Nat → Nat) (C : Nat → ClassId) (nb sz : Nat) (hN : XN A) (st : Nat → Nat → Int32) (sl : Nat → Nat → Int64) (so : Nat → XR) (va : Nat) (vb : Nat) (vf : Nat) (hva : va < 2147483648) (hvb : vb < 2147483648) (hI : XI st) (hab : va < vb) : Met l yJ3_checkIndex_8e157 wsJ3_checkIndex_8e157 ({ frames := 0, cells := 0, slots := 0, locals := 0 }) (va_Pc [.int (nI va), .int (nI vb), .ref vf] (xPre E dC dI A C nb sz st sl so)) (va_Qi (fun (r : Int32) (x : XT) => x = (st, sl, so) ∧ (True)) (xB dC dI A C nb) (XA A sz)) 0 0 (XA A sz) := by
  refine Met.ofW (cc := cJ3_checkIndex_8e157) (maxL := 3) (ret := (some .int)) (by decide) rfl ?_
  intro p e s m args below meth c s₁ B hml hv
  obtain ⟨rfl, hsz, hP, hK, hE⟩ := hv
  have hx := B.exec
  have hb := B.bytes
  have hr := B.returns
  have hts := atoms_spec (ws := wsJ3_checkIndex_8e157) B.pre
  have hown : s.vm.findClass RJ3 = some m.cls := findClass_of_methodNamed B.named
  subst hsz
  have hEv := hEE.1 _ _ _ hE
  have hS : va_S (XA A s.heap.size) s.heap s.heap [] := va_S.rf
  have hG : XG [1, 2, 3, 4, 5, 6, 7, 8, 9, 10, 11, 12, 13, 14, 15] st st := XG.rf hI
  have hl := lv_entry ([.int (nI va), .int (nI vb), .ref vf]) (n := 3) (Nat.le_of_ble_eq_true rfl)
  rw [lg_entry_eq]
  generalize (lg_sl ([.int (nI va), .int (nI vb), .ref vf]) ++ List.replicate (3 - (lg_sl ([.int (nI va), .int (nI vb), .ref vf])).length) Slot.unset).toArray = ls at hl ⊢
  have hl : lv_has ls 3 [(0, .int (nI va)), (1, .int (nI vb)), (2, .ref vf)] := hl
  refine lv_iload_n hx hb dJ3_checkIndex_8e157_0 rfl (lv_at hl 0 rfl) ?_
  refine lv_if_lt (tgt := 9) hx hb dJ3_checkIndex_8e157_1 (by decide) (fun cc => absurd ((nI_ltI (a := va) (b := 0) (by omega) (by omega)).mp cc) (by omega)) (fun _ => ?_)
  refine lv_iload_n hx hb dJ3_checkIndex_8e157_4 rfl (lv_at hl 0 rfl) ?_
  refine lv_iload_n hx hb dJ3_checkIndex_8e157_5 rfl (lv_at hl 1 rfl) ?_
  refine lv_icmp_lt (tgt := 16) hx hb dJ3_checkIndex_8e157_6 (by decide) (fun c2 => ?_) (fun c2 => ?_)
  · have c2 : va < vb := (nI_ltI (a := va) (b := vb) (by omega) (by omega)).mp c2
    refine lv_iload_n hx hb dJ3_checkIndex_8e157_16 rfl (lv_at hl 0 rfl) ?_
    exact W.iret (v := (nI va)) hx hb hr (fun t ht hW => ⟨⟨(nI va), (st, sl, so), rfl, ⟨rfl, trivial⟩, xB.of ht hP⟩, hS.F ht⟩) hS.2.2 dJ3_checkIndex_8e157_17
  · have c2 : ¬ va < vb := fun hh => c2 ((nI_ltI (a := va) (b := vb) (by omega) (by omega)).mpr hh)
    exact absurd hab (by omega)
set_option maxHeartbeats 4000000 in
set_option maxRecDepth 100000 in
theorem x_J0_checkIndex_df160 (l : Launch) (dC : Nat → ClassId) (dI : Nat → Nat → Nat) (ad : Nat → Nat) (E : EP) (hEE : EC ad E) (A : Nat → Nat) (C : Nat → ClassId) (nb sz : Nat) (hN : XN A) (st : Nat → Nat → Int32) (sl : Nat → Nat → Int64) (so : Nat → XR) (va : Nat) (vb : Nat) (hva : va < 2147483648) (hvb : vb < 2147483648) (hI : XI st) (hab : va < vb) : Met l yJ0_checkIndex_df160 wsJ0_checkIndex_df160 ({ frames := 1, cells := 0, slots := 0, locals := 22 }) (va_Pc [.int (nI va), .int (nI vb)] (xPre E dC dI A C nb sz st sl so)) (va_Qv (fun (x : XT) => x = (st, sl, so) ∧ (True)) (xB dC dI A C nb) (XA A sz)) 0 0 (XA A sz) := by
  refine Met.ofW (cc := cJ0_checkIndex_df160) (maxL := 2) (ret := none) (by decide) rfl ?_
  intro p e s m args below meth c s₁ B hml hv
  obtain ⟨rfl, hsz, hP, hK, hE⟩ := hv
  have hx := B.exec
  have hb := B.bytes
  have hr := B.returns
  have hts := atoms_spec (ws := wsJ0_checkIndex_df160) B.pre
  have hown : s.vm.findClass RJ0 = some m.cls := findClass_of_methodNamed B.named
  subst hsz
  have hEv := hEE.1 _ _ _ hE
  have hS : va_S (XA A s.heap.size) s.heap s.heap [] := va_S.rf
  have hG : XG [1, 2, 3, 4, 5, 6, 7, 8, 9, 10, 11, 12, 13, 14, 15] st st := XG.rf hI
  have hl := lv_entry ([.int (nI va), .int (nI vb)]) (n := 2) (Nat.le_of_ble_eq_true rfl)
  rw [lg_entry_eq]
  generalize (lg_sl ([.int (nI va), .int (nI vb)]) ++ List.replicate (2 - (lg_sl ([.int (nI va), .int (nI vb)])).length) Slot.unset).toArray = ls at hl ⊢
  have hl : lv_has ls 2 [(0, .int (nI va)), (1, .int (nI vb))] := hl
  refine lv_iload_n hx hb dJ0_checkIndex_df160_0 rfl (lv_at hl 0 rfl) ?_
  refine lv_iload_n hx hb dJ0_checkIndex_df160_1 rfl (lv_at hl 1 rfl) ?_
  rcases hEv.sv.2.2.2.2 with et1 | ⟨t1, et1⟩
  · refine va_gets (v := .null) hx hb et1 hS hown (hts _ mm_J0_checkIndex_df160_1) (fun _ hh => hh) dJ0_checkIndex_df160_2 ?_
    refine va_calli (va_runS (As := [.int (nI va), .int (nI vb), .null]) (rest := []) ⟨hx, hb, hml, hown, hts⟩ (x_checkIndexN l dC dI ad E hEE A C nb _ hN st sl so va vb (by omega) (by omega) hG.1 (by omega)) (va_cwS 3 hts gJ0_checkIndex_df160_J3_checkIndex_8e157 rfl rfl rfl (by decide +kernel) ⟨Nat.le_of_ble_eq_true rfl, Nat.le_of_ble_eq_true rfl⟩) ⟨fun a U g mk q => ⟨q.1, xPre.blind hEE q.2⟩, fun U hU hW => ⟨rfl, xPre.of hEE hP hK hE hS hU hW⟩⟩ rfl rfl hl.1 rfl (lv_room (Nat.le_of_ble_eq_true rfl)) dJ0_checkIndex_df160_5 ⟨Nat.le_of_ble_eq_true rfl, Nat.le_of_ble_eq_true rfl⟩) hS (fun q _ h => XA.le hS.1 q h) (XA.le hS.1) (fun r2 x t H locs ht hvm hw hB _ _ hS => ?_)
    have hP := xB.at ht hB
    clear hB ht hvm
    obtain ⟨rfl, hw⟩ := hw
    have hP : va_P (dC, dI) vwCl (xw A C nb st sl so) _ := hP
    clear hw
    refine lv_pop hx hb dJ0_checkIndex_df160_8 rfl ?_
    exact W.vret hx hb hr (fun t ht hW => ⟨⟨(st, sl, so), rfl, ⟨rfl, trivial⟩, xB.of ht hP⟩, hS.F ht⟩) hS.2.2 dJ0_checkIndex_df160_9
  · refine va_gets (v := .ref t1) hx hb et1 hS hown (hts _ mm_J0_checkIndex_df160_1) (fun _ hh => hh) dJ0_checkIndex_df160_2 ?_
    refine va_calli (va_runS (As := [.int (nI va), .int (nI vb), .ref t1]) (rest := []) ⟨hx, hb, hml, hown, hts⟩ (x_checkIndexR l dC dI ad E hEE A C nb _ hN st sl so va vb t1 (by omega) (by omega) hG.1 (by omega)) (va_cwS 3 hts gJ0_checkIndex_df160_J3_checkIndex_8e157 rfl rfl rfl (by decide +kernel) ⟨Nat.le_of_ble_eq_true rfl, Nat.le_of_ble_eq_true rfl⟩) ⟨fun a U g mk q => ⟨q.1, xPre.blind hEE q.2⟩, fun U hU hW => ⟨rfl, xPre.of hEE hP hK hE hS hU hW⟩⟩ rfl rfl hl.1 rfl (lv_room (Nat.le_of_ble_eq_true rfl)) dJ0_checkIndex_df160_5 ⟨Nat.le_of_ble_eq_true rfl, Nat.le_of_ble_eq_true rfl⟩) hS (fun q _ h => XA.le hS.1 q h) (XA.le hS.1) (fun r3 x t H locs ht hvm hw hB _ _ hS => ?_)
    have hP := xB.at ht hB
    clear hB ht hvm
    obtain ⟨rfl, hw⟩ := hw
    have hP : va_P (dC, dI) vwCl (xw A C nb st sl so) _ := hP
    clear hw
    refine lv_pop hx hb dJ0_checkIndex_df160_8 rfl ?_
    exact W.vret hx hb hr (fun t ht hW => ⟨⟨(st, sl, so), rfl, ⟨rfl, trivial⟩, xB.of ht hP⟩, hS.F ht⟩) hS.2.2 dJ0_checkIndex_df160_9
set_option maxHeartbeats 4000000 in
set_option maxRecDepth 100000 in
theorem x_J1_charAt_3b067 (l : Launch) (dC : Nat → ClassId) (dI : Nat → Nat → Nat) (ad : Nat → Nat) (E : EP) (hEE : EC ad E) (A : Nat → Nat) (C : Nat → ClassId) (nb sz : Nat) (hN : XN A) (st : Nat → Nat → Int32) (sl : Nat → Nat → Int64) (so : Nat → XR) (si : Nat) (va : Nat) (hsi : si < 30) (hva : va < 13) (hI : XI st) (hab : va < sv_len.getD si 0) : Met l yJ1_charAt_3b067 wsJ1_charAt_3b067 ({ frames := 2, cells := 0, slots := 0, locals := 43 }) (va_Pc [.ref (ad (200 + si)), .int (nI va)] (xPre E dC dI A C nb sz st sl so)) (va_Qi (fun (r : Int32) (x : XT) => x = (st, sl, so) ∧ (narrow .char (.int r) = .int r)) (xB dC dI A C nb) (XA A sz)) 0 0 (XA A sz) := by
  refine Met.ofW (cc := cJ1_charAt_3b067) (maxL := 2) (ret := (some .char)) (by decide) rfl ?_
  intro p e s m args below meth c s₁ B hml hv
  obtain ⟨rfl, hsz, hP, hK, hE⟩ := hv
  have hx := B.exec
  have hb := B.bytes
  have hr := B.returns
  have hts := atoms_spec (ws := wsJ1_charAt_3b067) B.pre
  have hown : s.vm.findClass RJ1 = some m.cls := findClass_of_methodNamed B.named
  subst hsz
  have hEv := hEE.1 _ _ _ hE
  have hS : va_S (XA A s.heap.size) s.heap s.heap [] := va_S.rf
  have hG : XG [1, 2, 3, 4, 5, 6, 7, 8, 9, 10, 11, 12, 13, 14, 15] st st := XG.rf hI
  have hl := lv_entry ([.ref (ad (200 + si)), .int (nI va)]) (n := 2) (Nat.le_of_ble_eq_true rfl)
  rw [lg_entry_eq]
  generalize (lg_sl ([.ref (ad (200 + si)), .int (nI va)]) ++ List.replicate (2 - (lg_sl ([.ref (ad (200 + si)), .int (nI va)])).length) Slot.unset).toArray = ls at hl ⊢
  have hl : lv_has ls 2 [(0, .ref (ad (200 + si))), (1, .int (nI va))] := hl
  refine lv_iload_n hx hb dJ1_charAt_3b067_0 rfl (lv_at hl 1 rfl) ?_
  refine lv_aload_n hx hb dJ1_charAt_3b067_1 rfl (lv_at hl 0 rfl) ?_
  refine va_tlen (v := nI (sv_len.getD si 0)) hx hb (hEv.sv.2.1 si (by omega)).2.2.2 hS rfl dJ1_charAt_3b067_2 ?_
  have hql1 := sv_lt si
  refine va_callv (va_runS (As := [.int (nI va), .int (nI (sv_len.getD si 0))]) (rest := []) ⟨hx, hb, hml, hown, hts⟩ (x_J0_checkIndex_df160 l dC dI ad E hEE A C nb _ hN st sl so va (sv_len.getD si 0) (by omega) (by omega) hG.1 (by omega)) (va_cwS 2 hts gJ1_charAt_3b067_J0_checkIndex_df160 rfl rfl rfl (by decide +kernel) ⟨Nat.le_of_ble_eq_true rfl, Nat.le_of_ble_eq_true rfl⟩) ⟨fun a U g mk q => ⟨q.1, xPre.blind hEE q.2⟩, fun U hU hW => ⟨rfl, xPre.of hEE hP hK hE hS hU hW⟩⟩ rfl rfl hl.1 rfl (lv_room (Nat.le_of_ble_eq_true rfl)) dJ1_charAt_3b067_3 ⟨Nat.le_of_ble_eq_true rfl, Nat.le_of_ble_eq_true rfl⟩) hS (fun q _ h => XA.le hS.1 q h) (XA.le hS.1) (fun x t H locs ht hvm hw hB _ _ hS => ?_)
  have hP := xB.at ht hB
  clear hB ht hvm
  obtain ⟨rfl, hw⟩ := hw
  have hP : va_P (dC, dI) vwCl (xw A C nb st sl so) _ := hP
  clear hw
  refine lv_aload_n hx hb dJ1_charAt_3b067_6 rfl (lv_at hl 0 rfl) ?_
  refine lv_iload_n hx hb dJ1_charAt_3b067_7 rfl (lv_at hl 1 rfl) ?_
  refine va_tb hx hb (hEv.sv.2.1 si (by omega)).2.2.2 hS (i := (nI va)) (vp_in_nI (by omega) (by omega)) rfl dJ1_charAt_3b067_8 ?_
  refine lv_topi (fun z3 ez3 => ?_)
  clear ez3
  refine lv_sipush (v := 255) hx hb dJ1_charAt_3b067_9 (by decide) ?_
  refine lv_iand hx hb dJ1_charAt_3b067_12 ?_
  refine lv_topi (fun z4 ez4 => ?_)
  clear ez4
  refine lv_i2c hx hb dJ1_charAt_3b067_13 rfl ?_
  refine lv_topi (fun z5 ez5 => ?_)
  exact W.zret (v := z5) hx hb hr (by rw [ez5]; exact pk_nc _) (fun t ht hW => ⟨⟨z5, (st, sl, so), rfl, ⟨rfl, by rw [ez5]; exact pk_nc _⟩, xB.of ht hP⟩, hS.F ht⟩) hS.2.2 dJ1_charAt_3b067_14
set_option maxHeartbeats 4000000 in
set_option maxRecDepth 100000 in
theorem x_J0_charAt_5068e (l : Launch) (dC : Nat → ClassId) (dI : Nat → Nat → Nat) (ad : Nat → Nat) (E : EP) (hEE : EC ad E) (A : Nat → Nat) (C : Nat → ClassId) (nb sz : Nat) (hN : XN A) (st : Nat → Nat → Int32) (sl : Nat → Nat → Int64) (so : Nat → XR) (si : Nat) (va : Nat) (hsi : si < 30) (hva : va < 13) (hI : XI st) (hab : va < sv_len.getD si 0) : Met l yJ0_charAt_5068e wsJ0_charAt_5068e ({ frames := 3, cells := 0, slots := 0, locals := 64 }) (va_Pc [.ref (ad (100 + si)), .int (nI va)] (xPre E dC dI A C nb sz st sl so)) (va_Qi (fun (r : Int32) (x : XT) => x = (st, sl, so) ∧ (narrow .char (.int r) = .int r)) (xB dC dI A C nb) (XA A sz)) 0 0 (XA A sz) := by
  refine Met.ofW (cc := cJ0_charAt_5068e) (maxL := 2) (ret := (some .char)) (by decide) rfl ?_
  intro p e s m args below meth c s₁ B hml hv
  obtain ⟨rfl, hsz, hP, hK, hE⟩ := hv
  have hx := B.exec
  have hb := B.bytes
  have hr := B.returns
  have hts := atoms_spec (ws := wsJ0_charAt_5068e) B.pre
  have hown : s.vm.findClass RJ0 = some m.cls := findClass_of_methodNamed B.named
  subst hsz
  have hEv := hEE.1 _ _ _ hE
  have hS : va_S (XA A s.heap.size) s.heap s.heap [] := va_S.rf
  have hG : XG [1, 2, 3, 4, 5, 6, 7, 8, 9, 10, 11, 12, 13, 14, 15] st st := XG.rf hI
  have hl := lv_entry ([.ref (ad (100 + si)), .int (nI va)]) (n := 2) (Nat.le_of_ble_eq_true rfl)
  rw [lg_entry_eq]
  generalize (lg_sl ([.ref (ad (100 + si)), .int (nI va)]) ++ List.replicate (2 - (lg_sl ([.ref (ad (100 + si)), .int (nI va)])).length) Slot.unset).toArray = ls at hl ⊢
  have hl : lv_has ls 2 [(0, .ref (ad (100 + si))), (1, .int (nI va))] := hl
  refine lv_aload_n hx hb dJ0_charAt_5068e_0 rfl (lv_at hl 0 rfl) ?_
  refine va_calli (va_runV (As := []) (rest := []) ⟨hx, hb, hml, hown, hts⟩ (x_J0_isLatin1_aae02 l dC dI ad E hEE A C nb _ hN st sl so si (by omega) hG.1) (cwV 0 hts gJ0_charAt_5068e_J0_isLatin1_aae02 rfl rfl rfl (by decide +kernel) ⟨Nat.le_of_ble_eq_true rfl, Nat.le_of_ble_eq_true rfl⟩) ⟨fun a U g mk q => ⟨q.1, xPre.blind hEE q.2⟩, SV.recv hEv.sv hS (i := si) (by omega), fun U hU hW => ⟨rfl, xPre.of hEE hP hK hE hS hU hW⟩⟩ rfl rfl hl.1 rfl (lv_room (Nat.le_of_ble_eq_true rfl)) dJ0_charAt_5068e_1 ⟨Nat.le_of_ble_eq_true rfl, Nat.le_of_ble_eq_true rfl⟩) hS (fun q _ h => XA.le hS.1 q h) (XA.le hS.1) (fun r1 x t H locs ht hvm hw hB _ _ hS => ?_)
  have hP := xB.at ht hB
  clear hB ht hvm
  obtain ⟨rfl, hw⟩ := hw
  have hP : va_P (dC, dI) vwCl (xw A C nb st sl so) _ := hP
  obtain rfl := hw
  refine lv_if_eq (tgt := 16) hx hb dJ0_charAt_5068e_4 (by decide) (fun cc => absurd cc (by decide)) (fun _ => ?_)
  refine lv_aload_n hx hb dJ0_charAt_5068e_7 rfl (lv_at hl 0 rfl) ?_
  refine vk_getf (v := .ref (ad (200 + si))) hx hb (hEv.sv.2.1 si (by omega)).2.2.1 hS hown (hts _ mm_J0_charAt_5068e_1) (fun _ hh => hh) dJ0_charAt_5068e_8 ?_
  refine lv_iload_n hx hb dJ0_charAt_5068e_11 rfl (lv_at hl 1 rfl) ?_
  refine va_calli (va_runS (As := [.ref (ad (200 + si)), .int (nI va)]) (rest := []) ⟨hx, hb, hml, hown, hts⟩ (x_J1_charAt_3b067 l dC dI ad E hEE A C nb _ hN st sl so si va (by omega) (by omega) hG.1 (by omega)) (va_cwS 2 hts gJ0_charAt_5068e_J1_charAt_3b067 rfl rfl rfl (by decide +kernel) ⟨Nat.le_of_ble_eq_true rfl, Nat.le_of_ble_eq_true rfl⟩) ⟨fun a U g mk q => ⟨q.1, xPre.blind hEE q.2⟩, fun U hU hW => ⟨rfl, xPre.of hEE hP hK hE hS hU hW⟩⟩ rfl rfl hl.1 rfl (lv_room (Nat.le_of_ble_eq_true rfl)) dJ0_charAt_5068e_12 ⟨Nat.le_of_ble_eq_true rfl, Nat.le_of_ble_eq_true rfl⟩) hS (fun q _ h => XA.le hS.1 q h) (XA.le hS.1) (fun r2 x t H locs ht hvm hw hB _ _ hS => ?_)
  have hP := xB.at ht hB
  clear hB ht hvm
  obtain ⟨rfl, hw⟩ := hw
  have hP : va_P (dC, dI) vwCl (xw A C nb st sl so) _ := hP
  have hf3 := hw
  exact W.zret (v := r2) hx hb hr (hf3) (fun t ht hW => ⟨⟨r2, (st, sl, so), rfl, ⟨rfl, hf3⟩, xB.of ht hP⟩, hS.F ht⟩) hS.2.2 dJ0_charAt_5068e_15
set_option maxHeartbeats 4000000 in
set_option maxRecDepth 100000 in
theorem x_X10_of (l : Launch) (dC : Nat → ClassId) (dI : Nat → Nat → Nat) (ad : Nat → Nat) (E : EP) (hEE : EC ad E) (A : Nat → Nat) (C : Nat → ClassId) (nb sz : Nat) (hN : XN A) (st : Nat → Nat → Int32) (sl : Nat → Nat → Int64) (so : Nat → XR) (va : Nat) (vb : Nat) (hva : va < 941) (hvb : vb < 941) (hI : XI st) : Met l yX10_of wsX10_of ({ frames := 4, cells := 0, slots := 0, locals := 85 }) (va_Pc [.ref (A 2), .int (nI va), .int (nI vb)] (xPre E dC dI A C nb sz st sl so)) (va_Qr (fun (_ : XT) => True) (fun (x : XT) (r : Nat) (t : State) => (x = (st, sl, so) ∧ (∃ j : Nat, r = ad j ∧ j < 26)) ∧ xB dC dI A C nb x t) (XA A sz)) 0 0 (XA A sz) := by
  refine Met.ofW (cc := cX10_of) (maxL := 6) (ret := (some (.object "OffTheLead$Word"))) (by decide) rfl ?_
  intro p e s m args below meth c s₁ B hml hv
  obtain ⟨rfl, hsz, hP, hK, hE⟩ := hv
  have hx := B.exec
  have hb := B.bytes
  have hr := B.returns
  have hts := atoms_spec (ws := wsX10_of) B.pre
  have hown : s.vm.findClass RX10 = some m.cls := findClass_of_methodNamed B.named
  subst hsz
  have hEv := hEE.1 _ _ _ hE
  have hS : va_S (XA A s.heap.size) s.heap s.heap [] := va_S.rf
  have hG : XG [1, 2, 3, 4, 5, 6, 7, 8, 9, 10, 11, 12, 13, 14, 15] st st := XG.rf hI
  have hl := lv_entry ([.ref (A 2), .int (nI va), .int (nI vb)]) (n := 6) (Nat.le_of_ble_eq_true rfl)
  rw [lg_entry_eq]
  generalize (lg_sl ([.ref (A 2), .int (nI va), .int (nI vb)]) ++ List.replicate (6 - (lg_sl ([.ref (A 2), .int (nI va), .int (nI vb)])).length) Slot.unset).toArray = ls at hl ⊢
  have hl : lv_has ls 6 [(0, .ref (A 2)), (1, .int (nI va)), (2, .int (nI vb))] := hl
  refine lv_iconst (v := 0) hx hb dX10_of_0 (by decide) ?_
  refine lv_istore_n (lv' := [(3, .int 0), (0, .ref (A 2)), (1, .int (nI va)), (2, .int (nI vb))]) hx hb dX10_of_1 rfl hl (by decide) rfl (fun ls hl => ?_)
  refine zz_wf (fun n stk H locs ls => ∃ k1 : Nat, n = 27 - k1 ∧ 0 ≤ k1 ∧ k1 < 27 ∧ va_P (dC, dI) vwCl (xw A C nb st sl so) H ∧ va_S (XA A s.heap.size) s.heap H locs ∧ lv_has ls 6 [(3, .int (nI k1)), (0, .ref (A 2)), (1, .int (nI va)), (2, .int (nI vb))] ∧ stk = []) ?_ (27 - 0) _ _ _ _ ⟨0, rfl, by omega, by omega, hP, hS, lv_sub hl [0, 1, 2, 3] rfl, rfl⟩
  rintro nn stk H locs ls ⟨k1, hm3, hv2_0, hv3_1, hP, hS, hl, rfl⟩ ih4
  refine lv_iload_n hx hb dX10_of_2 rfl (lv_at hl 0 rfl) ?_
  refine va_gets (v := .ref (ad 300)) hx hb (hEv.sv.1.1) hS hown (hts _ mm_X10_of_1) (fun _ hh => hh) dX10_of_3 ?_
  refine va_tlen (v := 26) hx hb hEv.sv.1.2.1 hS (by decide) dX10_of_6 ?_
  refine lv_icmp_ge (tgt := 93) hx hb dX10_of_7 (by decide) (fun c1 => ?_) (fun c1 => ?_)
  · have c1 : 26 ≤ k1 := (nI_leI (a := 26) (b := k1) (by omega) (by omega)).mp c1
    refine va_gets (v := .ref (ad 24)) hx hb (EV.word hEv (i := 24) (by decide)) hS hown (hts _ mm_X10_of_3) (fun _ hh => hh) dX10_of_93 ?_
    exact W.aret (v := .ref (ad 24)) hx hb hr (Or.inl ⟨_, rfl⟩) (Or.inr ⟨_, rfl⟩) (fun t ht hW => ⟨⟨(st, sl, so), (ad 24), rfl, trivial, ⟨rfl, ⟨24, rfl, by omega⟩⟩, xB.of ht hP⟩, hS.F ht⟩) hS.2.2 dX10_of_96
  · have c1 : ¬ 26 ≤ k1 := fun hh => c1 ((nI_leI (a := 26) (b := k1) (by omega) (by omega)).mpr hh)
    refine va_gets (v := .ref (ad 300)) hx hb (hEv.sv.1.1) hS hown (hts _ mm_X10_of_1) (fun _ hh => hh) dX10_of_10 ?_
    refine lv_iload_n hx hb dX10_of_13 rfl (lv_at hl 0 rfl) ?_
    refine vb_tq (v := .ref (ad k1)) hx hb hEv.sv.1.2.1 hS (i := (nI k1)) (vp_in_nI (by omega) (by decide)) (by show Value.ref (ad (nI k1).toNatClampNeg) = _; rw [nI_clamp (by omega)]) dX10_of_14 ?_
    refine vk_getf (v := .ref (ad (100 + k1))) hx hb (hEv.sv.1.2.2 k1 (by omega)) hS hown (hts _ mm_X10_of_2) (fun _ hh => hh) dX10_of_15 ?_
    refine lv_astore (lv' := [(4, .ref (ad (100 + k1))), (3, .int (nI k1)), (0, .ref (A 2)), (1, .int (nI va)), (2, .int (nI vb))]) hx hb dX10_of_18 hl (by decide) rfl (fun ls hl => ?_)
    refine lv_iconst (v := 0) hx hb dX10_of_20 (by decide) ?_
    refine lv_istore (lv' := [(5, .int 0), (4, .ref (ad (100 + k1))), (3, .int (nI k1)), (0, .ref (A 2)), (1, .int (nI va)), (2, .int (nI vb))]) hx hb dX10_of_21 hl (by decide) rfl (fun ls hl => ?_)
    refine zz_wf (fun n stk H locs ls => ∃ k5 : Nat, n = 13 - k5 ∧ 0 ≤ k5 ∧ k5 < 13 ∧ va_P (dC, dI) vwCl (xw A C nb st sl so) H ∧ va_S (XA A s.heap.size) s.heap H locs ∧ lv_has ls 6 [(5, .int (nI k5)), (4, .ref (ad (100 + k1))), (3, .int (nI k1)), (0, .ref (A 2)), (1, .int (nI va)), (2, .int (nI vb))] ∧ stk = []) ?_ (13 - 0) _ _ _ _ ⟨0, rfl, by omega, by omega, hP, hS, lv_sub hl [0, 1, 2, 3, 4, 5] rfl, rfl⟩
    rintro nn stk H locs ls ⟨k5, hm7, hv6_0, hv7_1, hP, hS, hl, rfl⟩ ih8
    refine lv_iload hx hb dX10_of_23 (lv_at hl 0 rfl) ?_
    refine lv_aload hx hb dX10_of_25 (lv_at hl 1 rfl) ?_
    refine va_calli (va_runV (As := []) (rest := [.int (nI k5)]) ⟨hx, hb, hml, hown, hts⟩ (x_J0_length_8abf5 l dC dI ad E hEE A C nb _ hN st sl so k1 (by omega) hG.1) (cwV 0 hts gX10_of_J0_length_8abf5 rfl rfl rfl (by decide +kernel) ⟨Nat.le_of_ble_eq_true rfl, Nat.le_of_ble_eq_true rfl⟩) ⟨fun a U g mk q => ⟨q.1, xPre.blind hEE q.2⟩, SV.recv hEv.sv hS (i := k1) (by omega), fun U hU hW => ⟨rfl, xPre.of hEE hP hK hE hS hU hW⟩⟩ rfl rfl hl.1 rfl (lv_room (Nat.le_of_ble_eq_true rfl)) dX10_of_27 ⟨Nat.le_of_ble_eq_true rfl, Nat.le_of_ble_eq_true rfl⟩) hS (fun q _ h => XA.le hS.1 q h) (XA.le hS.1) (fun r9 x t H locs ht hvm hw hB _ _ hS => ?_)
    have hP := xB.at ht hB
    clear hB ht hvm
    obtain ⟨rfl, hw⟩ := hw
    have hP : va_P (dC, dI) vwCl (xw A C nb st sl so) _ := hP
    obtain ⟨n10, rfl, hf11, hf12⟩ := hw
    refine lv_icmp_ge (tgt := 63) hx hb dX10_of_30 (by decide) (fun c2 => ?_) (fun c2 => ?_)
    · have c2 : n10 ≤ k5 := (nI_leI (a := n10) (b := k5) (by omega) (by omega)).mp c2
      refine lv_iload hx hb dX10_of_63 (lv_at hl 0 rfl) ?_
      refine lv_iload_n hx hb dX10_of_65 rfl (lv_at hl 5 rfl) ?_
      refine lv_iload_n hx hb dX10_of_66 rfl (lv_at hl 4 rfl) ?_
      refine lv_isub hx hb dX10_of_67 ?_
      refine lv_topi (fun z13 ez13 => ?_)
      clear ez13
      refine lv_icmp_ne (tgt := 87) hx hb dX10_of_68 (by decide) (fun c3 => ?_) (fun c3 => ?_)
      · refine lv_iinc (v := (nI (k1 + 1))) (lv' := [(3, .int (nI (k1 + 1))), (5, .int (nI k5)), (4, .ref (ad (100 + k1))), (0, .ref (A 2)), (1, .int (nI va)), (2, .int (nI vb))]) hx hb dX10_of_87 hl (k := 2) rfl (nI_add k1 1) (by decide) rfl (fun ls hl => ?_)
        refine lv_goto (tgt := 2) hx hb dX10_of_90 (by decide) ?_
        exact ih4 (27 - (k1 + 1)) _ _ _ _ (by omega) ⟨(k1 + 1), rfl, by omega, by omega, hP, hS, lv_sub hl [0, 3, 4, 5] rfl, rfl⟩
      · refine lv_iload hx hb dX10_of_71 (lv_at hl 0 rfl) ?_
        refine lv_aload hx hb dX10_of_73 (lv_at hl 1 rfl) ?_
        refine va_calli (va_runV (As := []) (rest := [.int (nI k5)]) ⟨hx, hb, hml, hown, hts⟩ (x_J0_length_8abf5 l dC dI ad E hEE A C nb _ hN st sl so k1 (by omega) hG.1) (cwV 0 hts gX10_of_J0_length_8abf5 rfl rfl rfl (by decide +kernel) ⟨Nat.le_of_ble_eq_true rfl, Nat.le_of_ble_eq_true rfl⟩) ⟨fun a U g mk q => ⟨q.1, xPre.blind hEE q.2⟩, SV.recv hEv.sv hS (i := k1) (by omega), fun U hU hW => ⟨rfl, xPre.of hEE hP hK hE hS hU hW⟩⟩ rfl rfl hl.1 rfl (lv_room (Nat.le_of_ble_eq_true rfl)) dX10_of_75 ⟨Nat.le_of_ble_eq_true rfl, Nat.le_of_ble_eq_true rfl⟩) hS (fun q _ h => XA.le hS.1 q h) (XA.le hS.1) (fun r14 x t H locs ht hvm hw hB _ _ hS => ?_)
        have hP := xB.at ht hB
        clear hB ht hvm
        obtain ⟨rfl, hw⟩ := hw
        have hP : va_P (dC, dI) vwCl (xw A C nb st sl so) _ := hP
        obtain ⟨n15, rfl, hf16, hf17⟩ := hw
        refine lv_icmp_ne (tgt := 87) hx hb dX10_of_78 (by decide) (fun c4 => ?_) (fun c4 => ?_)
        · have c4 : ¬ k5 = n15 := fun hh => c4 ((nI_eq (a := k5) (b := n15) (by omega) (by omega)).mpr hh)
          refine lv_iinc (v := (nI (k1 + 1))) (lv' := [(3, .int (nI (k1 + 1))), (5, .int (nI k5)), (4, .ref (ad (100 + k1))), (0, .ref (A 2)), (1, .int (nI va)), (2, .int (nI vb))]) hx hb dX10_of_87 hl (k := 2) rfl (nI_add k1 1) (by decide) rfl (fun ls hl => ?_)
          refine lv_goto (tgt := 2) hx hb dX10_of_90 (by decide) ?_
          exact ih4 (27 - (k1 + 1)) _ _ _ _ (by omega) ⟨(k1 + 1), rfl, by omega, by omega, hP, hS, lv_sub hl [0, 3, 4, 5] rfl, rfl⟩
        · have c4 : k5 = n15 := (nI_eq (a := k5) (b := n15) (by omega) (by omega)).mp c4
          refine va_gets (v := .ref (ad 300)) hx hb (hEv.sv.1.1) hS hown (hts _ mm_X10_of_1) (fun _ hh => hh) dX10_of_81 ?_
          refine lv_iload_n hx hb dX10_of_84 rfl (lv_at hl 2 rfl) ?_
          refine vb_tq (v := .ref (ad k1)) hx hb hEv.sv.1.2.1 hS (i := (nI k1)) (vp_in_nI (by omega) (by decide)) (by show Value.ref (ad (nI k1).toNatClampNeg) = _; rw [nI_clamp (by omega)]) dX10_of_85 ?_
          exact W.aret (v := .ref (ad k1)) hx hb hr (Or.inl ⟨_, rfl⟩) (Or.inr ⟨_, rfl⟩) (fun t ht hW => ⟨⟨(st, sl, so), (ad k1), rfl, trivial, ⟨rfl, ⟨k1, rfl, by omega⟩⟩, xB.of ht hP⟩, hS.F ht⟩) hS.2.2 dX10_of_86
    · have c2 : ¬ n10 ≤ k5 := fun hh => c2 ((nI_leI (a := n10) (b := k5) (by omega) (by omega)).mpr hh)
      refine lv_iload_n hx hb dX10_of_33 rfl (lv_at hl 4 rfl) ?_
      refine lv_iload hx hb dX10_of_34 (lv_at hl 0 rfl) ?_
      refine lv_iadd hx hb dX10_of_36 ?_
      refine zz_top (v := nI (va + k5)) (nI_add va k5) ?_
      refine lv_iload_n hx hb dX10_of_37 rfl (lv_at hl 5 rfl) ?_
      refine lv_icmp_ge (tgt := 63) hx hb dX10_of_38 (by decide) (fun c5 => ?_) (fun c5 => ?_)
      · have c5 : vb ≤ (va + k5) := (nI_leI (a := vb) (b := (va + k5)) (by omega) (by omega)).mp c5
        refine lv_iload hx hb dX10_of_63 (lv_at hl 0 rfl) ?_
        refine lv_iload_n hx hb dX10_of_65 rfl (lv_at hl 5 rfl) ?_
        refine lv_iload_n hx hb dX10_of_66 rfl (lv_at hl 4 rfl) ?_
        refine lv_isub hx hb dX10_of_67 ?_
        refine lv_topi (fun z18 ez18 => ?_)
        clear ez18
        refine lv_icmp_ne (tgt := 87) hx hb dX10_of_68 (by decide) (fun c6 => ?_) (fun c6 => ?_)
        · refine lv_iinc (v := (nI (k1 + 1))) (lv' := [(3, .int (nI (k1 + 1))), (5, .int (nI k5)), (4, .ref (ad (100 + k1))), (0, .ref (A 2)), (1, .int (nI va)), (2, .int (nI vb))]) hx hb dX10_of_87 hl (k := 2) rfl (nI_add k1 1) (by decide) rfl (fun ls hl => ?_)
          refine lv_goto (tgt := 2) hx hb dX10_of_90 (by decide) ?_
          exact ih4 (27 - (k1 + 1)) _ _ _ _ (by omega) ⟨(k1 + 1), rfl, by omega, by omega, hP, hS, lv_sub hl [0, 3, 4, 5] rfl, rfl⟩
        · refine lv_iload hx hb dX10_of_71 (lv_at hl 0 rfl) ?_
          refine lv_aload hx hb dX10_of_73 (lv_at hl 1 rfl) ?_
          refine va_calli (va_runV (As := []) (rest := [.int (nI k5)]) ⟨hx, hb, hml, hown, hts⟩ (x_J0_length_8abf5 l dC dI ad E hEE A C nb _ hN st sl so k1 (by omega) hG.1) (cwV 0 hts gX10_of_J0_length_8abf5 rfl rfl rfl (by decide +kernel) ⟨Nat.le_of_ble_eq_true rfl, Nat.le_of_ble_eq_true rfl⟩) ⟨fun a U g mk q => ⟨q.1, xPre.blind hEE q.2⟩, SV.recv hEv.sv hS (i := k1) (by omega), fun U hU hW => ⟨rfl, xPre.of hEE hP hK hE hS hU hW⟩⟩ rfl rfl hl.1 rfl (lv_room (Nat.le_of_ble_eq_true rfl)) dX10_of_75 ⟨Nat.le_of_ble_eq_true rfl, Nat.le_of_ble_eq_true rfl⟩) hS (fun q _ h => XA.le hS.1 q h) (XA.le hS.1) (fun r19 x t H locs ht hvm hw hB _ _ hS => ?_)
          have hP := xB.at ht hB
          clear hB ht hvm
          obtain ⟨rfl, hw⟩ := hw
          have hP : va_P (dC, dI) vwCl (xw A C nb st sl so) _ := hP
          obtain ⟨n20, rfl, hf21, hf22⟩ := hw
          refine lv_icmp_ne (tgt := 87) hx hb dX10_of_78 (by decide) (fun c7 => ?_) (fun c7 => ?_)
          · have c7 : ¬ k5 = n20 := fun hh => c7 ((nI_eq (a := k5) (b := n20) (by omega) (by omega)).mpr hh)
            refine lv_iinc (v := (nI (k1 + 1))) (lv' := [(3, .int (nI (k1 + 1))), (5, .int (nI k5)), (4, .ref (ad (100 + k1))), (0, .ref (A 2)), (1, .int (nI va)), (2, .int (nI vb))]) hx hb dX10_of_87 hl (k := 2) rfl (nI_add k1 1) (by decide) rfl (fun ls hl => ?_)
            refine lv_goto (tgt := 2) hx hb dX10_of_90 (by decide) ?_
            exact ih4 (27 - (k1 + 1)) _ _ _ _ (by omega) ⟨(k1 + 1), rfl, by omega, by omega, hP, hS, lv_sub hl [0, 3, 4, 5] rfl, rfl⟩
          · have c7 : k5 = n20 := (nI_eq (a := k5) (b := n20) (by omega) (by omega)).mp c7
            refine va_gets (v := .ref (ad 300)) hx hb (hEv.sv.1.1) hS hown (hts _ mm_X10_of_1) (fun _ hh => hh) dX10_of_81 ?_
            refine lv_iload_n hx hb dX10_of_84 rfl (lv_at hl 2 rfl) ?_
            refine vb_tq (v := .ref (ad k1)) hx hb hEv.sv.1.2.1 hS (i := (nI k1)) (vp_in_nI (by omega) (by decide)) (by show Value.ref (ad (nI k1).toNatClampNeg) = _; rw [nI_clamp (by omega)]) dX10_of_85 ?_
            exact W.aret (v := .ref (ad k1)) hx hb hr (Or.inl ⟨_, rfl⟩) (Or.inr ⟨_, rfl⟩) (fun t ht hW => ⟨⟨(st, sl, so), (ad k1), rfl, trivial, ⟨rfl, ⟨k1, rfl, by omega⟩⟩, xB.of ht hP⟩, hS.F ht⟩) hS.2.2 dX10_of_86
      · have c5 : ¬ vb ≤ (va + k5) := fun hh => c5 ((nI_leI (a := vb) (b := (va + k5)) (by omega) (by omega)).mpr hh)
        refine lv_aload hx hb dX10_of_41 (lv_at hl 1 rfl) ?_
        refine lv_iload hx hb dX10_of_43 (lv_at hl 0 rfl) ?_
        refine va_calli (va_runV (As := [.int (nI k5)]) (rest := []) ⟨hx, hb, hml, hown, hts⟩ (x_J0_charAt_5068e l dC dI ad E hEE A C nb _ hN st sl so k1 k5 (by omega) (by omega) hG.1 (by omega)) (cwV 1 hts gX10_of_J0_charAt_5068e rfl rfl rfl (by decide +kernel) ⟨Nat.le_of_ble_eq_true rfl, Nat.le_of_ble_eq_true rfl⟩) ⟨fun a U g mk q => ⟨q.1, xPre.blind hEE q.2⟩, SV.recv hEv.sv hS (i := k1) (by omega), fun U hU hW => ⟨rfl, xPre.of hEE hP hK hE hS hU hW⟩⟩ rfl rfl hl.1 rfl (lv_room (Nat.le_of_ble_eq_true rfl)) dX10_of_45 ⟨Nat.le_of_ble_eq_true rfl, Nat.le_of_ble_eq_true rfl⟩) hS (fun q _ h => XA.le hS.1 q h) (XA.le hS.1) (fun r23 x t H locs ht hvm hw hB _ _ hS => ?_)
        have hP := xB.at ht hB
        clear hB ht hvm
        obtain ⟨rfl, hw⟩ := hw
        have hP : va_P (dC, dI) vwCl (xw A C nb st sl so) _ := hP
        have hf24 := hw
        refine lv_aload_n hx hb dX10_of_48 rfl (lv_at hl 3 rfl) ?_
        refine lv_iload_n hx hb dX10_of_49 rfl (lv_at hl 4 rfl) ?_
        refine lv_iload hx hb dX10_of_50 (lv_at hl 0 rfl) ?_
        refine lv_iadd hx hb dX10_of_52 ?_
        refine zz_top (v := nI (va + k5)) (nI_add va k5) ?_
        refine va_bald hx hb hK hP 2 2 (xw_is (r := 2) (by omega) (xc_fix (r := 2) (by omega))) (xt_is (r := 2) (by omega) rfl) (i := (nI (va + k5))) (vp_in_nI (by omega) (by decide)) dX10_of_53 ?_
        obtain ⟨z25, ez25⟩ : ∃ y : Int32, st 2 (va + k5) = y := ⟨_, rfl⟩
        refine zz_top (v := z25) (by rw [nI_clamp (by omega)]; exact ez25) ?_
        refine lv_icmp_ne (tgt := 63) hx hb dX10_of_54 (by decide) (fun c8 => ?_) (fun c8 => ?_)
        · refine lv_iload hx hb dX10_of_63 (lv_at hl 0 rfl) ?_
          refine lv_iload_n hx hb dX10_of_65 rfl (lv_at hl 5 rfl) ?_
          refine lv_iload_n hx hb dX10_of_66 rfl (lv_at hl 4 rfl) ?_
          refine lv_isub hx hb dX10_of_67 ?_
          refine lv_topi (fun z26 ez26 => ?_)
          clear ez26
          refine lv_icmp_ne (tgt := 87) hx hb dX10_of_68 (by decide) (fun c9 => ?_) (fun c9 => ?_)
          · refine lv_iinc (v := (nI (k1 + 1))) (lv' := [(3, .int (nI (k1 + 1))), (5, .int (nI k5)), (4, .ref (ad (100 + k1))), (0, .ref (A 2)), (1, .int (nI va)), (2, .int (nI vb))]) hx hb dX10_of_87 hl (k := 2) rfl (nI_add k1 1) (by decide) rfl (fun ls hl => ?_)
            refine lv_goto (tgt := 2) hx hb dX10_of_90 (by decide) ?_
            exact ih4 (27 - (k1 + 1)) _ _ _ _ (by omega) ⟨(k1 + 1), rfl, by omega, by omega, hP, hS, lv_sub hl [0, 3, 4, 5] rfl, rfl⟩
          · refine lv_iload hx hb dX10_of_71 (lv_at hl 0 rfl) ?_
            refine lv_aload hx hb dX10_of_73 (lv_at hl 1 rfl) ?_
            refine va_calli (va_runV (As := []) (rest := [.int (nI k5)]) ⟨hx, hb, hml, hown, hts⟩ (x_J0_length_8abf5 l dC dI ad E hEE A C nb _ hN st sl so k1 (by omega) hG.1) (cwV 0 hts gX10_of_J0_length_8abf5 rfl rfl rfl (by decide +kernel) ⟨Nat.le_of_ble_eq_true rfl, Nat.le_of_ble_eq_true rfl⟩) ⟨fun a U g mk q => ⟨q.1, xPre.blind hEE q.2⟩, SV.recv hEv.sv hS (i := k1) (by omega), fun U hU hW => ⟨rfl, xPre.of hEE hP hK hE hS hU hW⟩⟩ rfl rfl hl.1 rfl (lv_room (Nat.le_of_ble_eq_true rfl)) dX10_of_75 ⟨Nat.le_of_ble_eq_true rfl, Nat.le_of_ble_eq_true rfl⟩) hS (fun q _ h => XA.le hS.1 q h) (XA.le hS.1) (fun r27 x t H locs ht hvm hw hB _ _ hS => ?_)
            have hP := xB.at ht hB
            clear hB ht hvm
            obtain ⟨rfl, hw⟩ := hw
            have hP : va_P (dC, dI) vwCl (xw A C nb st sl so) _ := hP
            obtain ⟨n28, rfl, hf29, hf30⟩ := hw
            refine lv_icmp_ne (tgt := 87) hx hb dX10_of_78 (by decide) (fun c10 => ?_) (fun c10 => ?_)
            · have c10 : ¬ k5 = n28 := fun hh => c10 ((nI_eq (a := k5) (b := n28) (by omega) (by omega)).mpr hh)
              refine lv_iinc (v := (nI (k1 + 1))) (lv' := [(3, .int (nI (k1 + 1))), (5, .int (nI k5)), (4, .ref (ad (100 + k1))), (0, .ref (A 2)), (1, .int (nI va)), (2, .int (nI vb))]) hx hb dX10_of_87 hl (k := 2) rfl (nI_add k1 1) (by decide) rfl (fun ls hl => ?_)
              refine lv_goto (tgt := 2) hx hb dX10_of_90 (by decide) ?_
              exact ih4 (27 - (k1 + 1)) _ _ _ _ (by omega) ⟨(k1 + 1), rfl, by omega, by omega, hP, hS, lv_sub hl [0, 3, 4, 5] rfl, rfl⟩
            · have c10 : k5 = n28 := (nI_eq (a := k5) (b := n28) (by omega) (by omega)).mp c10
              refine va_gets (v := .ref (ad 300)) hx hb (hEv.sv.1.1) hS hown (hts _ mm_X10_of_1) (fun _ hh => hh) dX10_of_81 ?_
              refine lv_iload_n hx hb dX10_of_84 rfl (lv_at hl 2 rfl) ?_
              refine vb_tq (v := .ref (ad k1)) hx hb hEv.sv.1.2.1 hS (i := (nI k1)) (vp_in_nI (by omega) (by decide)) (by show Value.ref (ad (nI k1).toNatClampNeg) = _; rw [nI_clamp (by omega)]) dX10_of_85 ?_
              exact W.aret (v := .ref (ad k1)) hx hb hr (Or.inl ⟨_, rfl⟩) (Or.inr ⟨_, rfl⟩) (fun t ht hW => ⟨⟨(st, sl, so), (ad k1), rfl, trivial, ⟨rfl, ⟨k1, rfl, by omega⟩⟩, xB.of ht hP⟩, hS.F ht⟩) hS.2.2 dX10_of_86
        · refine lv_iinc (v := (nI (k5 + 1))) (lv' := [(5, .int (nI (k5 + 1))), (4, .ref (ad (100 + k1))), (3, .int (nI k1)), (0, .ref (A 2)), (1, .int (nI va)), (2, .int (nI vb))]) hx hb dX10_of_57 hl (k := 0) rfl (nI_add k5 1) (by decide) rfl (fun ls hl => ?_)
          refine lv_goto (tgt := 23) hx hb dX10_of_60 (by decide) ?_
          exact ih8 (13 - (k5 + 1)) _ _ _ _ (by omega) ⟨(k5 + 1), rfl, by omega, by omega, hP, hS, lv_sub hl [0, 1, 2, 3, 4, 5] rfl, rfl⟩
set_option maxHeartbeats 4000000 in
set_option maxRecDepth 100000 in
theorem x_X8_isLetter (l : Launch) (dC : Nat → ClassId) (dI : Nat → Nat → Nat) (ad : Nat → Nat) (E : EP) (hEE : EC ad E) (A : Nat → Nat) (C : Nat → ClassId) (nb sz : Nat) (hN : XN A) (st : Nat → Nat → Int32) (sl : Nat → Nat → Int64) (so : Nat → XR) (va : Int32) (hI : XI st) : Met l yX8_isLetter wsX8_isLetter ({ frames := 0, cells := 0, slots := 0, locals := 0 }) (va_Pc [.int va] (xPre E dC dI A C nb sz st sl so)) (va_Qi (fun (r : Int32) (x : XT) => x = (st, sl, so) ∧ ((r = 1) ∨ (r = 0))) (xB dC dI A C nb) (XA A sz)) 0 0 (XA A sz) := by
  refine Met.ofW (cc := cX8_isLetter) (maxL := 1) (ret := (some .boolean)) (by decide) rfl ?_
  intro p e s m args below meth c s₁ B hml hv
  obtain ⟨rfl, hsz, hP, hK, hE⟩ := hv
  have hx := B.exec
  have hb := B.bytes
  have hr := B.returns
  have hts := atoms_spec (ws := wsX8_isLetter) B.pre
  have hown : s.vm.findClass RX8 = some m.cls := findClass_of_methodNamed B.named
  subst hsz
  have hEv := hEE.1 _ _ _ hE
  have hS : va_S (XA A s.heap.size) s.heap s.heap [] := va_S.rf
  have hG : XG [1, 2, 3, 4, 5, 6, 7, 8, 9, 10, 11, 12, 13, 14, 15] st st := XG.rf hI
  have hl := lv_entry ([.int va]) (n := 1) (Nat.le_of_ble_eq_true rfl)
  rw [lg_entry_eq]
  generalize (lg_sl ([.int va]) ++ List.replicate (1 - (lg_sl ([.int va])).length) Slot.unset).toArray = ls at hl ⊢
  have hl : lv_has ls 1 [(0, .int va)] := hl
  refine lv_iload_n hx hb dX8_isLetter_0 rfl (lv_at hl 0 rfl) ?_
  refine lv_bipush (v := 97) hx hb dX8_isLetter_1 (by decide) ?_
  refine lv_icmp_lt (tgt := 16) hx hb dX8_isLetter_3 (by decide) (fun c1 => ?_) (fun c1 => ?_)
  · refine lv_iconst (v := 0) hx hb dX8_isLetter_16 (by decide) ?_
    exact W.zret (v := 0) hx hb hr rfl (fun t ht hW => ⟨⟨0, (st, sl, so), rfl, ⟨rfl, Or.inr (rfl)⟩, xB.of ht hP⟩, hS.F ht⟩) hS.2.2 dX8_isLetter_17
  · refine lv_iload_n hx hb dX8_isLetter_6 rfl (lv_at hl 0 rfl) ?_
    refine lv_bipush (v := 122) hx hb dX8_isLetter_7 (by decide) ?_
    refine lv_icmp_gt (tgt := 16) hx hb dX8_isLetter_9 (by decide) (fun c2 => ?_) (fun c2 => ?_)
    · refine lv_iconst (v := 0) hx hb dX8_isLetter_16 (by decide) ?_
      exact W.zret (v := 0) hx hb hr rfl (fun t ht hW => ⟨⟨0, (st, sl, so), rfl, ⟨rfl, Or.inr (rfl)⟩, xB.of ht hP⟩, hS.F ht⟩) hS.2.2 dX8_isLetter_17
    · refine lv_iconst (v := 1) hx hb dX8_isLetter_12 (by decide) ?_
      refine lv_goto (tgt := 17) hx hb dX8_isLetter_13 (by decide) ?_
      exact W.zret (v := 1) hx hb hr rfl (fun t ht hW => ⟨⟨1, (st, sl, so), rfl, ⟨rfl, Or.inl (rfl)⟩, xB.of ht hP⟩, hS.F ht⟩) hS.2.2 dX8_isLetter_17
set_option maxHeartbeats 4000000 in
set_option maxRecDepth 100000 in
theorem x_X8_isDigit (l : Launch) (dC : Nat → ClassId) (dI : Nat → Nat → Nat) (ad : Nat → Nat) (E : EP) (hEE : EC ad E) (A : Nat → Nat) (C : Nat → ClassId) (nb sz : Nat) (hN : XN A) (st : Nat → Nat → Int32) (sl : Nat → Nat → Int64) (so : Nat → XR) (va : Int32) (hI : XI st) : Met l yX8_isDigit wsX8_isDigit ({ frames := 0, cells := 0, slots := 0, locals := 0 }) (va_Pc [.int va] (xPre E dC dI A C nb sz st sl so)) (va_Qi (fun (r : Int32) (x : XT) => x = (st, sl, so) ∧ ((r = 1) ∨ (r = 0))) (xB dC dI A C nb) (XA A sz)) 0 0 (XA A sz) := by
  refine Met.ofW (cc := cX8_isDigit) (maxL := 1) (ret := (some .boolean)) (by decide) rfl ?_
  intro p e s m args below meth c s₁ B hml hv
  obtain ⟨rfl, hsz, hP, hK, hE⟩ := hv
  have hx := B.exec
  have hb := B.bytes
  have hr := B.returns
  have hts := atoms_spec (ws := wsX8_isDigit) B.pre
  have hown : s.vm.findClass RX8 = some m.cls := findClass_of_methodNamed B.named
  subst hsz
  have hEv := hEE.1 _ _ _ hE
  have hS : va_S (XA A s.heap.size) s.heap s.heap [] := va_S.rf
  have hG : XG [1, 2, 3, 4, 5, 6, 7, 8, 9, 10, 11, 12, 13, 14, 15] st st := XG.rf hI
  have hl := lv_entry ([.int va]) (n := 1) (Nat.le_of_ble_eq_true rfl)
  rw [lg_entry_eq]
  generalize (lg_sl ([.int va]) ++ List.replicate (1 - (lg_sl ([.int va])).length) Slot.unset).toArray = ls at hl ⊢
  have hl : lv_has ls 1 [(0, .int va)] := hl
  refine lv_iload_n hx hb dX8_isDigit_0 rfl (lv_at hl 0 rfl) ?_
  refine lv_bipush (v := 48) hx hb dX8_isDigit_1 (by decide) ?_
  refine lv_icmp_lt (tgt := 16) hx hb dX8_isDigit_3 (by decide) (fun c1 => ?_) (fun c1 => ?_)
  · refine lv_iconst (v := 0) hx hb dX8_isDigit_16 (by decide) ?_
    exact W.zret (v := 0) hx hb hr rfl (fun t ht hW => ⟨⟨0, (st, sl, so), rfl, ⟨rfl, Or.inr (rfl)⟩, xB.of ht hP⟩, hS.F ht⟩) hS.2.2 dX8_isDigit_17
  · refine lv_iload_n hx hb dX8_isDigit_6 rfl (lv_at hl 0 rfl) ?_
    refine lv_bipush (v := 57) hx hb dX8_isDigit_7 (by decide) ?_
    refine lv_icmp_gt (tgt := 16) hx hb dX8_isDigit_9 (by decide) (fun c2 => ?_) (fun c2 => ?_)
    · refine lv_iconst (v := 0) hx hb dX8_isDigit_16 (by decide) ?_
      exact W.zret (v := 0) hx hb hr rfl (fun t ht hW => ⟨⟨0, (st, sl, so), rfl, ⟨rfl, Or.inr (rfl)⟩, xB.of ht hP⟩, hS.F ht⟩) hS.2.2 dX8_isDigit_17
    · refine lv_iconst (v := 1) hx hb dX8_isDigit_12 (by decide) ?_
      refine lv_goto (tgt := 17) hx hb dX8_isDigit_13 (by decide) ?_
      exact W.zret (v := 1) hx hb hr rfl (fun t ht hW => ⟨⟨1, (st, sl, so), rfl, ⟨rfl, Or.inl (rfl)⟩, xB.of ht hP⟩, hS.F ht⟩) hS.2.2 dX8_isDigit_17
set_option maxHeartbeats 4000000 in
set_option maxRecDepth 100000 in
theorem x_X8_isMark (l : Launch) (dC : Nat → ClassId) (dI : Nat → Nat → Nat) (ad : Nat → Nat) (E : EP) (hEE : EC ad E) (A : Nat → Nat) (C : Nat → ClassId) (nb sz : Nat) (hN : XN A) (st : Nat → Nat → Int32) (sl : Nat → Nat → Int64) (so : Nat → XR) (va : Int32) (hI : XI st) : Met l yX8_isMark wsX8_isMark ({ frames := 0, cells := 0, slots := 0, locals := 0 }) (va_Pc [.int va] (xPre E dC dI A C nb sz st sl so)) (va_Qi (fun (r : Int32) (x : XT) => x = (st, sl, so) ∧ ((r = 1) ∨ (r = 0))) (xB dC dI A C nb) (XA A sz)) 0 0 (XA A sz) := by
  refine Met.ofW (cc := cX8_isMark) (maxL := 1) (ret := (some .boolean)) (by decide) rfl ?_
  intro p e s m args below meth c s₁ B hml hv
  obtain ⟨rfl, hsz, hP, hK, hE⟩ := hv
  have hx := B.exec
  have hb := B.bytes
  have hr := B.returns
  have hts := atoms_spec (ws := wsX8_isMark) B.pre
  have hown : s.vm.findClass RX8 = some m.cls := findClass_of_methodNamed B.named
  subst hsz
  have hEv := hEE.1 _ _ _ hE
  have hS : va_S (XA A s.heap.size) s.heap s.heap [] := va_S.rf
  have hG : XG [1, 2, 3, 4, 5, 6, 7, 8, 9, 10, 11, 12, 13, 14, 15] st st := XG.rf hI
  have hl := lv_entry ([.int va]) (n := 1) (Nat.le_of_ble_eq_true rfl)
  rw [lg_entry_eq]
  generalize (lg_sl ([.int va]) ++ List.replicate (1 - (lg_sl ([.int va])).length) Slot.unset).toArray = ls at hl ⊢
  have hl : lv_has ls 1 [(0, .int va)] := hl
  refine lv_iload_n hx hb dX8_isMark_0 rfl (lv_at hl 0 rfl) ?_
  refine lv_bipush (v := 59) hx hb dX8_isMark_1 (by decide) ?_
  refine lv_icmp_eq (tgt := 36) hx hb dX8_isMark_3 (by decide) (fun c1 => ?_) (fun c1 => ?_)
  · refine lv_iconst (v := 1) hx hb dX8_isMark_36 (by decide) ?_
    refine lv_goto (tgt := 41) hx hb dX8_isMark_37 (by decide) ?_
    exact W.zret (v := 1) hx hb hr rfl (fun t ht hW => ⟨⟨1, (st, sl, so), rfl, ⟨rfl, Or.inl (rfl)⟩, xB.of ht hP⟩, hS.F ht⟩) hS.2.2 dX8_isMark_41
  · refine lv_iload_n hx hb dX8_isMark_6 rfl (lv_at hl 0 rfl) ?_
    refine lv_bipush (v := 60) hx hb dX8_isMark_7 (by decide) ?_
    refine lv_icmp_eq (tgt := 36) hx hb dX8_isMark_9 (by decide) (fun c2 => ?_) (fun c2 => ?_)
    · refine lv_iconst (v := 1) hx hb dX8_isMark_36 (by decide) ?_
      refine lv_goto (tgt := 41) hx hb dX8_isMark_37 (by decide) ?_
      exact W.zret (v := 1) hx hb hr rfl (fun t ht hW => ⟨⟨1, (st, sl, so), rfl, ⟨rfl, Or.inl (rfl)⟩, xB.of ht hP⟩, hS.F ht⟩) hS.2.2 dX8_isMark_41
    · refine lv_iload_n hx hb dX8_isMark_12 rfl (lv_at hl 0 rfl) ?_
      refine lv_bipush (v := 61) hx hb dX8_isMark_13 (by decide) ?_
      refine lv_icmp_eq (tgt := 36) hx hb dX8_isMark_15 (by decide) (fun c3 => ?_) (fun c3 => ?_)
      · refine lv_iconst (v := 1) hx hb dX8_isMark_36 (by decide) ?_
        refine lv_goto (tgt := 41) hx hb dX8_isMark_37 (by decide) ?_
        exact W.zret (v := 1) hx hb hr rfl (fun t ht hW => ⟨⟨1, (st, sl, so), rfl, ⟨rfl, Or.inl (rfl)⟩, xB.of ht hP⟩, hS.F ht⟩) hS.2.2 dX8_isMark_41
      · refine lv_iload_n hx hb dX8_isMark_18 rfl (lv_at hl 0 rfl) ?_
        refine lv_bipush (v := 62) hx hb dX8_isMark_19 (by decide) ?_
        refine lv_icmp_eq (tgt := 36) hx hb dX8_isMark_21 (by decide) (fun c4 => ?_) (fun c4 => ?_)
        · refine lv_iconst (v := 1) hx hb dX8_isMark_36 (by decide) ?_
          refine lv_goto (tgt := 41) hx hb dX8_isMark_37 (by decide) ?_
          exact W.zret (v := 1) hx hb hr rfl (fun t ht hW => ⟨⟨1, (st, sl, so), rfl, ⟨rfl, Or.inl (rfl)⟩, xB.of ht hP⟩, hS.F ht⟩) hS.2.2 dX8_isMark_41
        · refine lv_iload_n hx hb dX8_isMark_24 rfl (lv_at hl 0 rfl) ?_
          refine lv_bipush (v := 40) hx hb dX8_isMark_25 (by decide) ?_
          refine lv_icmp_eq (tgt := 36) hx hb dX8_isMark_27 (by decide) (fun c5 => ?_) (fun c5 => ?_)
          · refine lv_iconst (v := 1) hx hb dX8_isMark_36 (by decide) ?_
            refine lv_goto (tgt := 41) hx hb dX8_isMark_37 (by decide) ?_
            exact W.zret (v := 1) hx hb hr rfl (fun t ht hW => ⟨⟨1, (st, sl, so), rfl, ⟨rfl, Or.inl (rfl)⟩, xB.of ht hP⟩, hS.F ht⟩) hS.2.2 dX8_isMark_41
          · refine lv_iload_n hx hb dX8_isMark_30 rfl (lv_at hl 0 rfl) ?_
            refine lv_bipush (v := 41) hx hb dX8_isMark_31 (by decide) ?_
            refine lv_icmp_ne (tgt := 40) hx hb dX8_isMark_33 (by decide) (fun c6 => ?_) (fun c6 => ?_)
            · refine lv_iconst (v := 0) hx hb dX8_isMark_40 (by decide) ?_
              exact W.zret (v := 0) hx hb hr rfl (fun t ht hW => ⟨⟨0, (st, sl, so), rfl, ⟨rfl, Or.inr (rfl)⟩, xB.of ht hP⟩, hS.F ht⟩) hS.2.2 dX8_isMark_41
            · refine lv_iconst (v := 1) hx hb dX8_isMark_36 (by decide) ?_
              refine lv_goto (tgt := 41) hx hb dX8_isMark_37 (by decide) ?_
              exact W.zret (v := 1) hx hb hr rfl (fun t ht hW => ⟨⟨1, (st, sl, so), rfl, ⟨rfl, Or.inl (rfl)⟩, xB.of ht hP⟩, hS.F ht⟩) hS.2.2 dX8_isMark_41
set_option maxHeartbeats 4000000 in
set_option maxRecDepth 100000 in
theorem x_X8_looksAtMark (l : Launch) (dC : Nat → ClassId) (dI : Nat → Nat → Nat) (ad : Nat → Nat) (E : EP) (hEE : EC ad E) (A : Nat → Nat) (C : Nat → ClassId) (nb sz : Nat) (hN : XN A) (st : Nat → Nat → Int32) (sl : Nat → Nat → Int64) (so : Nat → XR) (va : Int32) (hI : XI st) : Met l yX8_looksAtMark wsX8_looksAtMark ({ frames := 0, cells := 0, slots := 0, locals := 0 }) (va_Pc [.ref (A 1), .int va] (xPre E dC dI A C nb sz st sl so)) (va_Qi (fun (r : Int32) (x : XT) => x = (st, sl, so) ∧ ((r = 1) ∨ (r = 0))) (xB dC dI A C nb) (XA A sz)) 0 0 (XA A sz) := by
  refine Met.ofW (cc := cX8_looksAtMark) (maxL := 2) (ret := (some .boolean)) (by decide) rfl ?_
  intro p e s m args below meth c s₁ B hml hv
  obtain ⟨rfl, hsz, hP, hK, hE⟩ := hv
  have hx := B.exec
  have hb := B.bytes
  have hr := B.returns
  have hts := atoms_spec (ws := wsX8_looksAtMark) B.pre
  have hown : s.vm.findClass RX8 = some m.cls := findClass_of_methodNamed B.named
  subst hsz
  have hEv := hEE.1 _ _ _ hE
  have hS : va_S (XA A s.heap.size) s.heap s.heap [] := va_S.rf
  have hG : XG [1, 2, 3, 4, 5, 6, 7, 8, 9, 10, 11, 12, 13, 14, 15] st st := XG.rf hI
  have hl := lv_entry ([.ref (A 1), .int va]) (n := 2) (Nat.le_of_ble_eq_true rfl)
  rw [lg_entry_eq]
  generalize (lg_sl ([.ref (A 1), .int va]) ++ List.replicate (2 - (lg_sl ([.ref (A 1), .int va])).length) Slot.unset).toArray = ls at hl ⊢
  have hl : lv_has ls 2 [(0, .ref (A 1)), (1, .int va)] := hl
  refine lv_aload_n hx hb dX8_looksAtMark_0 rfl (lv_at hl 0 rfl) ?_
  refine va_get (D := (dC, dI)) (ci := 9) (v := .int (st 1 4)) (C := RX8) (T := TX8) (N := 15) hx hb hts ii_X8_looksAtMark_X8 hown hK hP 1 (xw_is (r := 1) (by omega) (xc_fix (r := 1) (by omega))) rfl 4 (by decide) (hts _ mm_X8_looksAtMark_1) (fun _ hh => hh) rfl dX8_looksAtMark_1 ?_
  obtain ⟨z1, ez1⟩ : ∃ y : Int32, st 1 4 = y := ⟨_, rfl⟩
  refine zz_top (v := z1) (by exact ez1) ?_
  refine lv_iconst (v := 2) hx hb dX8_looksAtMark_4 (by decide) ?_
  refine lv_icmp_ne (tgt := 20) hx hb dX8_looksAtMark_5 (by decide) (fun c1 => ?_) (fun c1 => ?_)
  · refine lv_iconst (v := 0) hx hb dX8_looksAtMark_20 (by decide) ?_
    exact W.zret (v := 0) hx hb hr rfl (fun t ht hW => ⟨⟨0, (st, sl, so), rfl, ⟨rfl, Or.inr (rfl)⟩, xB.of ht hP⟩, hS.F ht⟩) hS.2.2 dX8_looksAtMark_21
  · refine lv_aload_n hx hb dX8_looksAtMark_8 rfl (lv_at hl 0 rfl) ?_
    refine va_get (D := (dC, dI)) (ci := 9) (v := .int (st 1 6)) (C := RX8) (T := TX8) (N := 15) hx hb hts ii_X8_looksAtMark_X8 hown hK hP 1 (xw_is (r := 1) (by omega) (xc_fix (r := 1) (by omega))) rfl 6 (by decide) (hts _ mm_X8_looksAtMark_2) (fun _ hh => hh) rfl dX8_looksAtMark_9 ?_
    obtain ⟨z2, ez2⟩ : ∃ y : Int32, st 1 6 = y := ⟨_, rfl⟩
    refine zz_top (v := z2) (by exact ez2) ?_
    refine lv_iload_n hx hb dX8_looksAtMark_12 rfl (lv_at hl 1 rfl) ?_
    refine lv_icmp_ne (tgt := 20) hx hb dX8_looksAtMark_13 (by decide) (fun c2 => ?_) (fun c2 => ?_)
    · refine lv_iconst (v := 0) hx hb dX8_looksAtMark_20 (by decide) ?_
      exact W.zret (v := 0) hx hb hr rfl (fun t ht hW => ⟨⟨0, (st, sl, so), rfl, ⟨rfl, Or.inr (rfl)⟩, xB.of ht hP⟩, hS.F ht⟩) hS.2.2 dX8_looksAtMark_21
    · refine lv_iconst (v := 1) hx hb dX8_looksAtMark_16 (by decide) ?_
      refine lv_goto (tgt := 21) hx hb dX8_looksAtMark_17 (by decide) ?_
      exact W.zret (v := 1) hx hb hr rfl (fun t ht hW => ⟨⟨1, (st, sl, so), rfl, ⟨rfl, Or.inl (rfl)⟩, xB.of ht hP⟩, hS.F ht⟩) hS.2.2 dX8_looksAtMark_21
set_option maxHeartbeats 4000000 in
set_option maxRecDepth 100000 in
theorem x_X8_byteOf (l : Launch) (dC : Nat → ClassId) (dI : Nat → Nat → Nat) (ad : Nat → Nat) (E : EP) (hEE : EC ad E) (A : Nat → Nat) (C : Nat → ClassId) (nb sz : Nat) (hN : XN A) (st : Nat → Nat → Int32) (sl : Nat → Nat → Int64) (so : Nat → XR) (va : Int32) (hI : XI st) : Met l yX8_byteOf wsX8_byteOf ({ frames := 0, cells := 0, slots := 0, locals := 0 }) (va_Pc [.ref (A 1), .int va] (xPre E dC dI A C nb sz st sl so)) (va_Qi (fun (r : Int32) (x : XT) => x = (st, sl, so) ∧ (True)) (xB dC dI A C nb) (XA A sz)) 0 0 (XA A sz) := by
  refine Met.ofW (cc := cX8_byteOf) (maxL := 2) (ret := (some .int)) (by decide) rfl ?_
  intro p e s m args below meth c s₁ B hml hv
  obtain ⟨rfl, hsz, hP, hK, hE⟩ := hv
  have hx := B.exec
  have hb := B.bytes
  have hr := B.returns
  have hts := atoms_spec (ws := wsX8_byteOf) B.pre
  have hown : s.vm.findClass RX8 = some m.cls := findClass_of_methodNamed B.named
  subst hsz
  have hEv := hEE.1 _ _ _ hE
  have hS : va_S (XA A s.heap.size) s.heap s.heap [] := va_S.rf
  have hG : XG [1, 2, 3, 4, 5, 6, 7, 8, 9, 10, 11, 12, 13, 14, 15] st st := XG.rf hI
  have hl := lv_entry ([.ref (A 1), .int va]) (n := 2) (Nat.le_of_ble_eq_true rfl)
  rw [lg_entry_eq]
  generalize (lg_sl ([.ref (A 1), .int va]) ++ List.replicate (2 - (lg_sl ([.ref (A 1), .int va])).length) Slot.unset).toArray = ls at hl ⊢
  have hl : lv_has ls 2 [(0, .ref (A 1)), (1, .int va)] := hl
  refine lv_iload_n hx hb dX8_byteOf_0 rfl (lv_at hl 1 rfl) ?_
  refine lv_if_lt (tgt := 25) hx hb dX8_byteOf_1 (by decide) (fun c1 => ?_) (fun c1 => ?_)
  · refine lv_iconst (v := (-1)) hx hb dX8_byteOf_25 (by decide) ?_
    exact W.iret (v := (-1)) hx hb hr (fun t ht hW => ⟨⟨(-1), (st, sl, so), rfl, ⟨rfl, trivial⟩, xB.of ht hP⟩, hS.F ht⟩) hS.2.2 dX8_byteOf_26
  · obtain ⟨jn, hjn, rfl⟩ := nI_of c1
    refine lv_iload_n hx hb dX8_byteOf_4 rfl (lv_at hl 1 rfl) ?_
    refine lv_aload_n hx hb dX8_byteOf_5 rfl (lv_at hl 0 rfl) ?_
    refine va_get (D := (dC, dI)) (ci := 9) (v := .int (st 1 1)) (C := RX8) (T := TX8) (N := 15) hx hb hts ii_X8_byteOf_X8 hown hK hP 1 (xw_is (r := 1) (by omega) (xc_fix (r := 1) (by omega))) rfl 1 (by decide) (hts _ mm_X8_byteOf_1) (fun _ hh => hh) rfl dX8_byteOf_6 ?_
    obtain ⟨n1, hn1, en1⟩ := hG.1.at (r := 1) (k := 1) (b := 941) (by decide : xrg 1 1 = 941) (by decide)
    refine zz_top (v := nI n1) (by exact en1) ?_
    refine lv_icmp_ge (tgt := 25) hx hb dX8_byteOf_9 (by decide) (fun c2 => ?_) (fun c2 => ?_)
    · have c2 : n1 ≤ jn := (nI_leI (a := n1) (b := jn) (by omega) (by omega)).mp c2
      refine lv_iconst (v := (-1)) hx hb dX8_byteOf_25 (by decide) ?_
      exact W.iret (v := (-1)) hx hb hr (fun t ht hW => ⟨⟨(-1), (st, sl, so), rfl, ⟨rfl, trivial⟩, xB.of ht hP⟩, hS.F ht⟩) hS.2.2 dX8_byteOf_26
    · have c2 : ¬ n1 ≤ jn := fun hh => c2 ((nI_leI (a := n1) (b := jn) (by omega) (by omega)).mpr hh)
      refine lv_aload_n hx hb dX8_byteOf_12 rfl (lv_at hl 0 rfl) ?_
      refine va_get (D := (dC, dI)) (ci := 9) (v := .ref (A 2)) (C := RX8) (T := TX8) (N := 15) hx hb hts ii_X8_byteOf_X8 hown hK hP 1 (xw_is (r := 1) (by omega) (xc_fix (r := 1) (by omega))) rfl 0 (by decide) (hts _ mm_X8_byteOf_2) (fun _ hh => hh) rfl dX8_byteOf_13 ?_
      refine lv_iload_n hx hb dX8_byteOf_16 rfl (lv_at hl 1 rfl) ?_
      refine va_bald hx hb hK hP 2 2 (xw_is (r := 2) (by omega) (xc_fix (r := 2) (by omega))) (xt_is (r := 2) (by omega) rfl) (i := (nI jn)) (vp_in_nI (by omega) (by decide)) dX8_byteOf_17 ?_
      obtain ⟨z2, ez2⟩ : ∃ y : Int32, st 2 jn = y := ⟨_, rfl⟩
      refine zz_top (v := z2) (by rw [nI_clamp (by omega)]; exact ez2) ?_
      refine lv_sipush (v := 255) hx hb dX8_byteOf_18 (by decide) ?_
      refine lv_iand hx hb dX8_byteOf_21 ?_
      refine lv_topi (fun z3 ez3 => ?_)
      clear ez3
      refine lv_goto (tgt := 26) hx hb dX8_byteOf_22 (by decide) ?_
      exact W.iret (v := z3) hx hb hr (fun t ht hW => ⟨⟨z3, (st, sl, so), rfl, ⟨rfl, trivial⟩, xB.of ht hP⟩, hS.F ht⟩) hS.2.2 dX8_byteOf_26
set_option maxHeartbeats 4000000 in
set_option maxRecDepth 100000 in
theorem x_X8_refuse (l : Launch) (dC : Nat → ClassId) (dI : Nat → Nat → Nat) (ad : Nat → Nat) (E : EP) (hEE : EC ad E) (A : Nat → Nat) (C : Nat → ClassId) (nb sz : Nat) (hN : XN A) (st : Nat → Nat → Int32) (sl : Nat → Nat → Int64) (so : Nat → XR) (va : Int32) (hI : XI st) : Met l yX8_refuse wsX8_refuse ({ frames := 0, cells := 0, slots := 0, locals := 0 }) (va_Pc [.ref (A 1), .int va] (xPre E dC dI A C nb sz st sl so)) (va_Qi (fun (r : Int32) (x : XT) => XG [1, 2, 3, 4, 5, 6, 7, 8, 9, 11, 12, 13, 14, 15] st x.1 ∧ LGq sl x.2.1 ∧ x.2.2 = so ∧ (r = 0 ∧ x.1 1 13 = va)) (xB dC dI A C nb) (XA A sz)) 0 0 (XA A sz) := by
  refine Met.ofW (cc := cX8_refuse) (maxL := 2) (ret := (some .boolean)) (by decide) rfl ?_
  intro p e s m args below meth c s₁ B hml hv
  obtain ⟨rfl, hsz, hP, hK, hE⟩ := hv
  have hx := B.exec
  have hb := B.bytes
  have hr := B.returns
  have hts := atoms_spec (ws := wsX8_refuse) B.pre
  have hown : s.vm.findClass RX8 = some m.cls := findClass_of_methodNamed B.named
  subst hsz
  have hEv := hEE.1 _ _ _ hE
  have hS : va_S (XA A s.heap.size) s.heap s.heap [] := va_S.rf
  have hG : XG [1, 2, 3, 4, 5, 6, 7, 8, 9, 11, 12, 13, 14, 15] st st := XG.rf hI
  have hl := lv_entry ([.ref (A 1), .int va]) (n := 2) (Nat.le_of_ble_eq_true rfl)
  rw [lg_entry_eq]
  generalize (lg_sl ([.ref (A 1), .int va]) ++ List.replicate (2 - (lg_sl ([.ref (A 1), .int va])).length) Slot.unset).toArray = ls at hl ⊢
  have hl : lv_has ls 2 [(0, .ref (A 1)), (1, .int va)] := hl
  have hL : LGq sl sl := LGq.rf
  refine lv_aload_n hx hb dX8_refuse_0 rfl (lv_at hl 0 rfl) ?_
  refine lv_iload_n hx hb dX8_refuse_1 rfl (lv_at hl 1 rfl) ?_
  refine va_put (D := (dC, dI)) (ci := 9) (v := .int va) (ty := .int) (C := RX8) (T := TX8) (N := 15) hx hb hts ii_X8_refuse_X8 tyX8 tyX8_ok nmX8 hown hK hP (xD hN _ _ _ _ _ _) hS 1 (xw_is (r := 1) (by omega) (xc_fix (r := 1) (by omega))) rfl 13 (by decide) (hts _ mm_X8_refuse_1) (fun _ hh => hh) rfl (by decide +kernel) rfl rfl (Nat.le_of_ble_eq_true rfl) dX8_refuse_2 (fun H locs hP _ hS => ?_)
  have hP : va_P (dC, dI) vwCl (xw A C nb (up2 st 1 13 va) sl so) H := by rw [← xset (r := 1) (k := 13) (v := va) (xc_fix (r := 1) (by omega))]; exact hP
  obtain ⟨st1, est1⟩ : ∃ y, y = up2 st 1 13 va := ⟨_, rfl⟩
  have hG : XG [1, 2, 3, 4, 5, 6, 7, 8, 9, 11, 12, 13, 14, 15] st st1 := by rw [est1]; exact hG.up (xz (r := 1) (k := 13) (by decide : xrg 1 13 = 0)) (xpn (c := 10) (by decide : xcl 1 13 = 10) (by decide))
  rw [← est1] at hP
  refine lv_aload_n hx hb dX8_refuse_5 rfl (lv_at hl 0 rfl) ?_
  refine lv_aload_n hx hb dX8_refuse_6 rfl (lv_at hl 0 rfl) ?_
  refine va_get (D := (dC, dI)) (ci := 9) (v := .int (st1 1 5)) (C := RX8) (T := TX8) (N := 15) hx hb hts ii_X8_refuse_X8 hown hK hP 1 (xw_is (r := 1) (by omega) (xc_fix (r := 1) (by omega))) rfl 5 (by decide) (hts _ mm_X8_refuse_2) (fun _ hh => hh) rfl dX8_refuse_7 ?_
  obtain ⟨n2, hn2, en2⟩ := hG.1.at (r := 1) (k := 5) (b := 941) (by decide : xrg 1 5 = 941) (by decide)
  refine zz_top (v := nI n2) (by exact en2) ?_
  refine va_put (D := (dC, dI)) (ci := 9) (v := .int (nI n2)) (ty := .int) (C := RX8) (T := TX8) (N := 15) hx hb hts ii_X8_refuse_X8 tyX8 tyX8_ok nmX8 hown hK hP (xD hN _ _ _ _ _ _) hS 1 (xw_is (r := 1) (by omega) (xc_fix (r := 1) (by omega))) rfl 14 (by decide) (hts _ mm_X8_refuse_3) (fun _ hh => hh) rfl (by decide +kernel) rfl rfl (Nat.le_of_ble_eq_true rfl) dX8_refuse_10 (fun H locs hP _ hS => ?_)
  have hP : va_P (dC, dI) vwCl (xw A C nb (up2 st1 1 14 (nI n2)) sl so) H := by rw [← xset (r := 1) (k := 14) (v := (nI n2)) (xc_fix (r := 1) (by omega))]; exact hP
  obtain ⟨st3, est3⟩ : ∃ y, y = up2 st1 1 14 (nI n2) := ⟨_, rfl⟩
  have hG : XG [1, 2, 3, 4, 5, 6, 7, 8, 9, 11, 12, 13, 14, 15] st st3 := by rw [est3]; exact hG.up (xz (r := 1) (k := 14) (by decide : xrg 1 14 = 0)) (xpn (c := 0) (by decide : xcl 1 14 = 0) (by decide))
  rw [← est3] at hP
  refine lv_iconst (v := 0) hx hb dX8_refuse_13 (by decide) ?_
  exact W.zret (v := 0) hx hb hr rfl (fun t ht hW => ⟨⟨0, (st3, sl, so), rfl, ⟨hG, hL, rfl, ⟨rfl, by show st3 1 13 = _; rw [est3, up2_ne (r := 1) (k := 14) (a := 1) (j := 13) _ _ (by omega), est1, up2_same]⟩⟩, xB.of ht hP⟩, hS.F ht⟩) hS.2.2 dX8_refuse_14
set_option maxHeartbeats 4000000 in
set_option maxRecDepth 100000 in
theorem x_X8_stepOverRun (l : Launch) (dC : Nat → ClassId) (dI : Nat → Nat → Nat) (ad : Nat → Nat) (E : EP) (hEE : EC ad E) (A : Nat → Nat) (C : Nat → ClassId) (nb sz : Nat) (hN : XN A) (st : Nat → Nat → Int32) (sl : Nat → Nat → Int64) (so : Nat → XR) (hI : XI st) : Met l yX8_stepOverRun wsX8_stepOverRun ({ frames := 1, cells := 0, slots := 0, locals := 20 }) (va_Pc [.ref (A 1)] (xPre E dC dI A C nb sz st sl so)) (va_Qv (fun (x : XT) => XG [1, 2, 3, 4, 5, 6, 7, 8, 9, 10, 11, 12, 13, 14, 15] st x.1 ∧ LGq sl x.2.1 ∧ x.2.2 = so ∧ (True)) (xB dC dI A C nb) (XA A sz)) 0 0 (XA A sz) := by
  refine Met.ofW (cc := cX8_stepOverRun) (maxL := 3) (ret := none) (by decide) rfl ?_
  intro p e s m args below meth c s₁ B hml hv
  obtain ⟨rfl, hsz, hP, hK, hE⟩ := hv
  have hx := B.exec
  have hb := B.bytes
  have hr := B.returns
  have hts := atoms_spec (ws := wsX8_stepOverRun) B.pre
  have hown : s.vm.findClass RX8 = some m.cls := findClass_of_methodNamed B.named
  subst hsz
  have hEv := hEE.1 _ _ _ hE
  have hS : va_S (XA A s.heap.size) s.heap s.heap [] := va_S.rf
  have hG : XG [1, 2, 3, 4, 5, 6, 7, 8, 9, 10, 11, 12, 13, 14, 15] st st := XG.rf hI
  have hl := lv_entry ([.ref (A 1)]) (n := 3) (Nat.le_of_ble_eq_true rfl)
  rw [lg_entry_eq]
  generalize (lg_sl ([.ref (A 1)]) ++ List.replicate (3 - (lg_sl ([.ref (A 1)])).length) Slot.unset).toArray = ls at hl ⊢
  have hl : lv_has ls 3 [(0, .ref (A 1))] := hl
  have hL : LGq sl sl := LGq.rf
  refine lv_iconst (v := 0) hx hb dX8_stepOverRun_0 (by decide) ?_
  refine lv_istore_n (lv' := [(1, .int 0), (0, .ref (A 1))]) hx hb dX8_stepOverRun_1 rfl hl (by decide) rfl (fun ls hl => ?_)
  refine lv_aload_n hx hb dX8_stepOverRun_2 rfl (lv_at hl 1 rfl) ?_
  refine lv_lconst (v := 0) hx hb dX8_stepOverRun_3 (by decide) ?_
  refine va_put (D := (dC, dI)) (ci := 9) (v := .long 0) (ty := .long) (C := RX8) (T := TX8) (N := 15) hx hb hts ii_X8_stepOverRun_X8 tyX8 tyX8_ok nmX8 hown hK hP (xD hN _ _ _ _ _ _) hS 1 (xw_is (r := 1) (by omega) (xc_fix (r := 1) (by omega))) rfl 8 (by decide) (hts _ mm_X8_stepOverRun_1) (fun _ hh => hh) rfl (by decide +kernel) rfl rfl (Nat.le_of_ble_eq_true rfl) dX8_stepOverRun_4 (fun H locs hP _ hS => ?_)
  have hP : va_P (dC, dI) vwCl (xw A C nb st (upL sl 1 8 0) so) H := by rw [← xsetL (r := 1) (k := 8) (v := 0) (xc_fix (r := 1) (by omega))]; exact hP
  obtain ⟨sl1, esl1⟩ : ∃ y, y = upL sl 1 8 0 := ⟨_, rfl⟩
  rw [← esl1] at hP
  have hL : LGq sl sl1 := by rw [esl1]; exact hL.up (by omega)
  clear esl1
  refine lv_aload_n hx hb dX8_stepOverRun_7 rfl (lv_at hl 1 rfl) ?_
  refine lv_iconst (v := 0) hx hb dX8_stepOverRun_8 (by decide) ?_
  refine va_put (D := (dC, dI)) (ci := 9) (v := .int 0) (ty := .int) (C := RX8) (T := TX8) (N := 15) hx hb hts ii_X8_stepOverRun_X8 tyX8 tyX8_ok nmX8 hown hK hP (xD hN _ _ _ _ _ _) hS 1 (xw_is (r := 1) (by omega) (xc_fix (r := 1) (by omega))) rfl 6 (by decide) (hts _ mm_X8_stepOverRun_2) (fun _ hh => hh) rfl (by decide +kernel) rfl rfl (Nat.le_of_ble_eq_true rfl) dX8_stepOverRun_9 (fun H locs hP _ hS => ?_)
  have hP : va_P (dC, dI) vwCl (xw A C nb (up2 st 1 6 0) sl1 so) H := by rw [← xset (r := 1) (k := 6) (v := 0) (xc_fix (r := 1) (by omega))]; exact hP
  obtain ⟨st2, est2⟩ : ∃ y, y = up2 st 1 6 0 := ⟨_, rfl⟩
  have hG : XG [1, 2, 3, 4, 5, 6, 7, 8, 9, 10, 11, 12, 13, 14, 15] st st2 := by rw [est2]; exact hG.up (xz (r := 1) (k := 6) (by decide : xrg 1 6 = 0)) (xpn (c := 0) (by decide : xcl 1 6 = 0) (by decide))
  rw [← est2] at hP
  obtain ⟨n3, hn3, en3⟩ := hG.1.at (r := 1) (k := 3) (b := 941) (by decide : xrg 1 3 = 941) (by decide)
  refine zz_wf (fun n stk H locs ls => ∃ z4 : Int32, ∃ st5 : Nat → Nat → Int32, ∃ sl6 : Nat → Nat → Int64, ∃ g7 : Nat, n = 941 - g7 ∧ g7 < 941 ∧ st5 1 3 = nI g7 ∧ va_P (dC, dI) vwCl (xw A C nb st5 sl6 so) H ∧ XG [1, 2, 3, 4, 5, 6, 7, 8, 9, 10, 11, 12, 13, 14, 15] st st5 ∧ LGq sl sl6 ∧ va_S (XA A s.heap.size) s.heap H locs ∧ lv_has ls 3 [(1, .int z4), (0, .ref (A 1))] ∧ stk = []) ?_ (941 - n3) _ _ _ _ ⟨0, st2, sl1, n3, rfl, by omega, by rw [en3], hP, hG, hL, hS, lv_sub hl [0, 1] rfl, rfl⟩
  rintro nn stk H locs ls ⟨z4, st5, sl6, g7, hm8, hv8_0, eg7, hP, hG, hL, hS, hl, rfl⟩ ih9
  refine lv_aload_n hx hb dX8_stepOverRun_12 rfl (lv_at hl 1 rfl) ?_
  refine va_get (D := (dC, dI)) (ci := 9) (v := .int (st5 1 3)) (C := RX8) (T := TX8) (N := 15) hx hb hts ii_X8_stepOverRun_X8 hown hK hP 1 (xw_is (r := 1) (by omega) (xc_fix (r := 1) (by omega))) rfl 3 (by decide) (hts _ mm_X8_stepOverRun_3) (fun _ hh => hh) rfl dX8_stepOverRun_13 ?_
  refine zz_top (v := (nI g7)) (by show st5 1 3 = _; rw [eg7]) ?_
  refine lv_aload_n hx hb dX8_stepOverRun_16 rfl (lv_at hl 1 rfl) ?_
  refine va_get (D := (dC, dI)) (ci := 9) (v := .int (st5 1 1)) (C := RX8) (T := TX8) (N := 15) hx hb hts ii_X8_stepOverRun_X8 hown hK hP 1 (xw_is (r := 1) (by omega) (xc_fix (r := 1) (by omega))) rfl 1 (by decide) (hts _ mm_X8_stepOverRun_4) (fun _ hh => hh) rfl dX8_stepOverRun_17 ?_
  obtain ⟨n10, hn10, en10⟩ := hG.1.at (r := 1) (k := 1) (b := 941) (by decide : xrg 1 1 = 941) (by decide)
  refine zz_top (v := nI n10) (by exact en10) ?_
  refine lv_icmp_ge (tgt := 123) hx hb dX8_stepOverRun_20 (by decide) (fun c1 => ?_) (fun c1 => ?_)
  · have c1 : n10 ≤ g7 := (nI_leI (a := n10) (b := g7) (by omega) (by omega)).mp c1
    refine lv_aload_n hx hb dX8_stepOverRun_123 rfl (lv_at hl 1 rfl) ?_
    refine va_get (D := (dC, dI)) (ci := 9) (v := .int (st5 1 3)) (C := RX8) (T := TX8) (N := 15) hx hb hts ii_X8_stepOverRun_X8 hown hK hP 1 (xw_is (r := 1) (by omega) (xc_fix (r := 1) (by omega))) rfl 3 (by decide) (hts _ mm_X8_stepOverRun_3) (fun _ hh => hh) rfl dX8_stepOverRun_124 ?_
    refine zz_top (v := (nI g7)) (by show st5 1 3 = _; rw [eg7]) ?_
    refine lv_aload_n hx hb dX8_stepOverRun_127 rfl (lv_at hl 1 rfl) ?_
    refine va_get (D := (dC, dI)) (ci := 9) (v := .int (st5 1 5)) (C := RX8) (T := TX8) (N := 15) hx hb hts ii_X8_stepOverRun_X8 hown hK hP 1 (xw_is (r := 1) (by omega) (xc_fix (r := 1) (by omega))) rfl 5 (by decide) (hts _ mm_X8_stepOverRun_6) (fun _ hh => hh) rfl dX8_stepOverRun_128 ?_
    obtain ⟨n11, hn11, en11⟩ := hG.1.at (r := 1) (k := 5) (b := 941) (by decide : xrg 1 5 = 941) (by decide)
    refine zz_top (v := nI n11) (by exact en11) ?_
    refine lv_isub hx hb dX8_stepOverRun_131 ?_
    refine lv_topi (fun z12 ez12 => ?_)
    clear ez12
    refine lv_istore_n (lv' := [(2, .int z12), (1, .int z4), (0, .ref (A 1))]) hx hb dX8_stepOverRun_132 rfl hl (by decide) rfl (fun ls hl => ?_)
    refine lv_iload_n hx hb dX8_stepOverRun_133 rfl (lv_at hl 1 rfl) ?_
    refine lv_iload_n hx hb dX8_stepOverRun_134 rfl (lv_at hl 0 rfl) ?_
    refine lv_icmp_ne (tgt := 156) hx hb dX8_stepOverRun_135 (by decide) (fun c2 => ?_) (fun c2 => ?_)
    · refine lv_aload_n hx hb dX8_stepOverRun_156 rfl (lv_at hl 2 rfl) ?_
      refine lv_iload_n hx hb dX8_stepOverRun_157 rfl (lv_at hl 1 rfl) ?_
      refine lv_if_ne (tgt := 170) hx hb dX8_stepOverRun_158 (by decide) (fun c3 => ?_) (fun c3 => ?_)
      · refine lv_iconst (v := 4) hx hb dX8_stepOverRun_170 (by decide) ?_
        refine va_put (D := (dC, dI)) (ci := 9) (v := .int 4) (ty := .int) (C := RX8) (T := TX8) (N := 15) hx hb hts ii_X8_stepOverRun_X8 tyX8 tyX8_ok nmX8 hown hK hP (xD hN _ _ _ _ _ _) hS 1 (xw_is (r := 1) (by omega) (xc_fix (r := 1) (by omega))) rfl 4 (by decide) (hts _ mm_X8_stepOverRun_7) (fun _ hh => hh) rfl (by decide +kernel) rfl rfl (Nat.le_of_ble_eq_true rfl) dX8_stepOverRun_171 (fun H locs hP _ hS => ?_)
        have hP : va_P (dC, dI) vwCl (xw A C nb (up2 st5 1 4 4) sl6 so) H := by rw [← xset (r := 1) (k := 4) (v := 4) (xc_fix (r := 1) (by omega))]; exact hP
        obtain ⟨st13, est13⟩ : ∃ y, y = up2 st5 1 4 4 := ⟨_, rfl⟩
        have hG : XG [1, 2, 3, 4, 5, 6, 7, 8, 9, 10, 11, 12, 13, 14, 15] st st13 := by rw [est13]; exact hG.up (xz (r := 1) (k := 4) (by decide : xrg 1 4 = 0)) (xpn (c := 0) (by decide : xcl 1 4 = 0) (by decide))
        rw [← est13] at hP
        exact W.vret hx hb hr (fun t ht hW => ⟨⟨(st13, sl6, so), rfl, ⟨hG, hL, rfl, trivial⟩, xB.of ht hP⟩, hS.F ht⟩) hS.2.2 dX8_stepOverRun_174
      · refine lv_iload_n hx hb dX8_stepOverRun_161 rfl (lv_at hl 0 rfl) ?_
        refine lv_iconst (v := 3) hx hb dX8_stepOverRun_162 (by decide) ?_
        refine lv_icmp_gt (tgt := 170) hx hb dX8_stepOverRun_163 (by decide) (fun c4 => ?_) (fun c4 => ?_)
        · refine lv_iconst (v := 4) hx hb dX8_stepOverRun_170 (by decide) ?_
          refine va_put (D := (dC, dI)) (ci := 9) (v := .int 4) (ty := .int) (C := RX8) (T := TX8) (N := 15) hx hb hts ii_X8_stepOverRun_X8 tyX8 tyX8_ok nmX8 hown hK hP (xD hN _ _ _ _ _ _) hS 1 (xw_is (r := 1) (by omega) (xc_fix (r := 1) (by omega))) rfl 4 (by decide) (hts _ mm_X8_stepOverRun_7) (fun _ hh => hh) rfl (by decide +kernel) rfl rfl (Nat.le_of_ble_eq_true rfl) dX8_stepOverRun_171 (fun H locs hP _ hS => ?_)
          have hP : va_P (dC, dI) vwCl (xw A C nb (up2 st5 1 4 4) sl6 so) H := by rw [← xset (r := 1) (k := 4) (v := 4) (xc_fix (r := 1) (by omega))]; exact hP
          obtain ⟨st14, est14⟩ : ∃ y, y = up2 st5 1 4 4 := ⟨_, rfl⟩
          have hG : XG [1, 2, 3, 4, 5, 6, 7, 8, 9, 10, 11, 12, 13, 14, 15] st st14 := by rw [est14]; exact hG.up (xz (r := 1) (k := 4) (by decide : xrg 1 4 = 0)) (xpn (c := 0) (by decide : xcl 1 4 = 0) (by decide))
          rw [← est14] at hP
          exact W.vret hx hb hr (fun t ht hW => ⟨⟨(st14, sl6, so), rfl, ⟨hG, hL, rfl, trivial⟩, xB.of ht hP⟩, hS.F ht⟩) hS.2.2 dX8_stepOverRun_174
        · refine lv_iconst (v := 1) hx hb dX8_stepOverRun_166 (by decide) ?_
          refine lv_goto (tgt := 171) hx hb dX8_stepOverRun_167 (by decide) ?_
          refine va_put (D := (dC, dI)) (ci := 9) (v := .int 1) (ty := .int) (C := RX8) (T := TX8) (N := 15) hx hb hts ii_X8_stepOverRun_X8 tyX8 tyX8_ok nmX8 hown hK hP (xD hN _ _ _ _ _ _) hS 1 (xw_is (r := 1) (by omega) (xc_fix (r := 1) (by omega))) rfl 4 (by decide) (hts _ mm_X8_stepOverRun_7) (fun _ hh => hh) rfl (by decide +kernel) rfl rfl (Nat.le_of_ble_eq_true rfl) dX8_stepOverRun_171 (fun H locs hP _ hS => ?_)
          have hP : va_P (dC, dI) vwCl (xw A C nb (up2 st5 1 4 1) sl6 so) H := by rw [← xset (r := 1) (k := 4) (v := 1) (xc_fix (r := 1) (by omega))]; exact hP
          obtain ⟨st15, est15⟩ : ∃ y, y = up2 st5 1 4 1 := ⟨_, rfl⟩
          have hG : XG [1, 2, 3, 4, 5, 6, 7, 8, 9, 10, 11, 12, 13, 14, 15] st st15 := by rw [est15]; exact hG.up (xz (r := 1) (k := 4) (by decide : xrg 1 4 = 0)) (xpn (c := 0) (by decide : xcl 1 4 = 0) (by decide))
          rw [← est15] at hP
          exact W.vret hx hb hr (fun t ht hW => ⟨⟨(st15, sl6, so), rfl, ⟨hG, hL, rfl, trivial⟩, xB.of ht hP⟩, hS.F ht⟩) hS.2.2 dX8_stepOverRun_174
    · refine lv_aload_n hx hb dX8_stepOverRun_138 rfl (lv_at hl 2 rfl) ?_
      refine lv_iload_n hx hb dX8_stepOverRun_139 rfl (lv_at hl 0 rfl) ?_
      refine lv_bipush (v := 7) hx hb dX8_stepOverRun_140 (by decide) ?_
      refine lv_icmp_gt (tgt := 149) hx hb dX8_stepOverRun_142 (by decide) (fun c5 => ?_) (fun c5 => ?_)
      · refine lv_iconst (v := 4) hx hb dX8_stepOverRun_149 (by decide) ?_
        refine va_put (D := (dC, dI)) (ci := 9) (v := .int 4) (ty := .int) (C := RX8) (T := TX8) (N := 15) hx hb hts ii_X8_stepOverRun_X8 tyX8 tyX8_ok nmX8 hown hK hP (xD hN _ _ _ _ _ _) hS 1 (xw_is (r := 1) (by omega) (xc_fix (r := 1) (by omega))) rfl 4 (by decide) (hts _ mm_X8_stepOverRun_7) (fun _ hh => hh) rfl (by decide +kernel) rfl rfl (Nat.le_of_ble_eq_true rfl) dX8_stepOverRun_150 (fun H locs hP _ hS => ?_)
        have hP : va_P (dC, dI) vwCl (xw A C nb (up2 st5 1 4 4) sl6 so) H := by rw [← xset (r := 1) (k := 4) (v := 4) (xc_fix (r := 1) (by omega))]; exact hP
        obtain ⟨st16, est16⟩ : ∃ y, y = up2 st5 1 4 4 := ⟨_, rfl⟩
        have hG : XG [1, 2, 3, 4, 5, 6, 7, 8, 9, 10, 11, 12, 13, 14, 15] st st16 := by rw [est16]; exact hG.up (xz (r := 1) (k := 4) (by decide : xrg 1 4 = 0)) (xpn (c := 0) (by decide : xcl 1 4 = 0) (by decide))
        rw [← est16] at hP
        refine lv_goto (tgt := 174) hx hb dX8_stepOverRun_153 (by decide) ?_
        exact W.vret hx hb hr (fun t ht hW => ⟨⟨(st16, sl6, so), rfl, ⟨hG, hL, rfl, trivial⟩, xB.of ht hP⟩, hS.F ht⟩) hS.2.2 dX8_stepOverRun_174
      · refine lv_iconst (v := 0) hx hb dX8_stepOverRun_145 (by decide) ?_
        refine lv_goto (tgt := 150) hx hb dX8_stepOverRun_146 (by decide) ?_
        refine va_put (D := (dC, dI)) (ci := 9) (v := .int 0) (ty := .int) (C := RX8) (T := TX8) (N := 15) hx hb hts ii_X8_stepOverRun_X8 tyX8 tyX8_ok nmX8 hown hK hP (xD hN _ _ _ _ _ _) hS 1 (xw_is (r := 1) (by omega) (xc_fix (r := 1) (by omega))) rfl 4 (by decide) (hts _ mm_X8_stepOverRun_7) (fun _ hh => hh) rfl (by decide +kernel) rfl rfl (Nat.le_of_ble_eq_true rfl) dX8_stepOverRun_150 (fun H locs hP _ hS => ?_)
        have hP : va_P (dC, dI) vwCl (xw A C nb (up2 st5 1 4 0) sl6 so) H := by rw [← xset (r := 1) (k := 4) (v := 0) (xc_fix (r := 1) (by omega))]; exact hP
        obtain ⟨st17, est17⟩ : ∃ y, y = up2 st5 1 4 0 := ⟨_, rfl⟩
        have hG : XG [1, 2, 3, 4, 5, 6, 7, 8, 9, 10, 11, 12, 13, 14, 15] st st17 := by rw [est17]; exact hG.up (xz (r := 1) (k := 4) (by decide : xrg 1 4 = 0)) (xpn (c := 0) (by decide : xcl 1 4 = 0) (by decide))
        rw [← est17] at hP
        refine lv_goto (tgt := 174) hx hb dX8_stepOverRun_153 (by decide) ?_
        exact W.vret hx hb hr (fun t ht hW => ⟨⟨(st17, sl6, so), rfl, ⟨hG, hL, rfl, trivial⟩, xB.of ht hP⟩, hS.F ht⟩) hS.2.2 dX8_stepOverRun_174
  · have c1 : ¬ n10 ≤ g7 := fun hh => c1 ((nI_leI (a := n10) (b := g7) (by omega) (by omega)).mpr hh)
    refine lv_aload_n hx hb dX8_stepOverRun_23 rfl (lv_at hl 1 rfl) ?_
    refine va_get (D := (dC, dI)) (ci := 9) (v := .ref (A 2)) (C := RX8) (T := TX8) (N := 15) hx hb hts ii_X8_stepOverRun_X8 hown hK hP 1 (xw_is (r := 1) (by omega) (xc_fix (r := 1) (by omega))) rfl 0 (by decide) (hts _ mm_X8_stepOverRun_5) (fun _ hh => hh) rfl dX8_stepOverRun_24 ?_
    refine lv_aload_n hx hb dX8_stepOverRun_27 rfl (lv_at hl 1 rfl) ?_
    refine va_get (D := (dC, dI)) (ci := 9) (v := .int (st5 1 3)) (C := RX8) (T := TX8) (N := 15) hx hb hts ii_X8_stepOverRun_X8 hown hK hP 1 (xw_is (r := 1) (by omega) (xc_fix (r := 1) (by omega))) rfl 3 (by decide) (hts _ mm_X8_stepOverRun_3) (fun _ hh => hh) rfl dX8_stepOverRun_28 ?_
    refine zz_top (v := (nI g7)) (by show st5 1 3 = _; rw [eg7]) ?_
    refine va_bald hx hb hK hP 2 2 (xw_is (r := 2) (by omega) (xc_fix (r := 2) (by omega))) (xt_is (r := 2) (by omega) rfl) (i := (nI g7)) (vp_in_nI (by omega) (by decide)) dX8_stepOverRun_31 ?_
    obtain ⟨z18, ez18⟩ : ∃ y : Int32, st5 2 g7 = y := ⟨_, rfl⟩
    refine zz_top (v := z18) (by rw [nI_clamp (by omega)]; exact ez18) ?_
    refine va_calli (va_runS (As := [.int z18]) (rest := []) ⟨hx, hb, hml, hown, hts⟩ (x_X8_isLetter l dC dI ad E hEE A C nb _ hN st5 sl6 so z18  hG.1) (va_cwS 1 hts gX8_stepOverRun_X8_isLetter rfl rfl rfl (by decide +kernel) ⟨Nat.le_of_ble_eq_true rfl, Nat.le_of_ble_eq_true rfl⟩) ⟨fun a U g mk q => ⟨q.1, xPre.blind hEE q.2⟩, fun U hU hW => ⟨rfl, xPre.of hEE hP hK hE hS hU hW⟩⟩ rfl rfl hl.1 rfl (lv_room (Nat.le_of_ble_eq_true rfl)) dX8_stepOverRun_32 ⟨Nat.le_of_ble_eq_true rfl, Nat.le_of_ble_eq_true rfl⟩) hS (fun q _ h => XA.le hS.1 q h) (XA.le hS.1) (fun r19 x t H locs ht hvm hw hB _ _ hS => ?_)
    have hP := xB.at ht hB
    clear hB ht hvm
    obtain ⟨rfl, hw⟩ := hw
    have hP : va_P (dC, dI) vwCl (xw A C nb st5 sl6 so) _ := hP
    rcases hw with rfl | rfl
    · refine lv_if_ne (tgt := 53) hx hb dX8_stepOverRun_35 (by decide) (fun _ => ?_) (fun cc => absurd cc (by decide))
      refine lv_aload_n hx hb dX8_stepOverRun_53 rfl (lv_at hl 1 rfl) ?_
      refine va_get (D := (dC, dI)) (ci := 9) (v := .ref (A 2)) (C := RX8) (T := TX8) (N := 15) hx hb hts ii_X8_stepOverRun_X8 hown hK hP 1 (xw_is (r := 1) (by omega) (xc_fix (r := 1) (by omega))) rfl 0 (by decide) (hts _ mm_X8_stepOverRun_5) (fun _ hh => hh) rfl dX8_stepOverRun_54 ?_
      refine lv_aload_n hx hb dX8_stepOverRun_57 rfl (lv_at hl 1 rfl) ?_
      refine va_get (D := (dC, dI)) (ci := 9) (v := .int (st5 1 3)) (C := RX8) (T := TX8) (N := 15) hx hb hts ii_X8_stepOverRun_X8 hown hK hP 1 (xw_is (r := 1) (by omega) (xc_fix (r := 1) (by omega))) rfl 3 (by decide) (hts _ mm_X8_stepOverRun_3) (fun _ hh => hh) rfl dX8_stepOverRun_58 ?_
      refine zz_top (v := (nI g7)) (by show st5 1 3 = _; rw [eg7]) ?_
      refine va_bald hx hb hK hP 2 2 (xw_is (r := 2) (by omega) (xc_fix (r := 2) (by omega))) (xt_is (r := 2) (by omega) rfl) (i := (nI g7)) (vp_in_nI (by omega) (by decide)) dX8_stepOverRun_61 ?_
      refine zz_top (v := z18) (by rw [nI_clamp (by omega)]; show st5 2 g7 = _; rw [ez18]) ?_
      refine lv_istore_n (lv' := [(2, .int z18), (1, .int z4), (0, .ref (A 1))]) hx hb dX8_stepOverRun_62 rfl hl (by decide) rfl (fun ls hl => ?_)
      refine lv_iload_n hx hb dX8_stepOverRun_63 rfl (lv_at hl 0 rfl) ?_
      refine va_calli (va_runS (As := [.int z18]) (rest := []) ⟨hx, hb, hml, hown, hts⟩ (x_X8_isLetter l dC dI ad E hEE A C nb _ hN st5 sl6 so z18  hG.1) (va_cwS 1 hts gX8_stepOverRun_X8_isLetter rfl rfl rfl (by decide +kernel) ⟨Nat.le_of_ble_eq_true rfl, Nat.le_of_ble_eq_true rfl⟩) ⟨fun a U g mk q => ⟨q.1, xPre.blind hEE q.2⟩, fun U hU hW => ⟨rfl, xPre.of hEE hP hK hE hS hU hW⟩⟩ rfl rfl hl.1 rfl (lv_room (Nat.le_of_ble_eq_true rfl)) dX8_stepOverRun_64 ⟨Nat.le_of_ble_eq_true rfl, Nat.le_of_ble_eq_true rfl⟩) hS (fun q _ h => XA.le hS.1 q h) (XA.le hS.1) (fun r20 x t H locs ht hvm hw hB _ _ hS => ?_)
      have hP := xB.at ht hB
      clear hB ht hvm
      obtain ⟨rfl, hw⟩ := hw
      have hP : va_P (dC, dI) vwCl (xw A C nb st5 sl6 so) _ := hP
      rcases hw with rfl | rfl
      · refine lv_if_eq (tgt := 94) hx hb dX8_stepOverRun_67 (by decide) (fun cc => absurd cc (by decide)) (fun _ => ?_)
        obtain ⟨z21, ez21⟩ : ∃ y : Int32, y = z4 + 1 := ⟨_, rfl⟩
        refine lv_iinc (v := z21) (lv' := [(1, .int z21), (2, .int z18), (0, .ref (A 1))]) hx hb dX8_stepOverRun_70 hl (k := 1) rfl (by rw [ez21]; rfl) (by decide) rfl (fun ls hl => ?_)
        refine lv_aload_n hx hb dX8_stepOverRun_73 rfl (lv_at hl 2 rfl) ?_
        refine lv_aload_n hx hb dX8_stepOverRun_74 rfl (lv_at hl 2 rfl) ?_
        refine va_get (D := (dC, dI)) (ci := 9) (v := .long (sl6 1 8)) (C := RX8) (T := TX8) (N := 15) hx hb hts ii_X8_stepOverRun_X8 hown hK hP 1 (xw_is (r := 1) (by omega) (xc_fix (r := 1) (by omega))) rfl 8 (by decide) (hts _ mm_X8_stepOverRun_1) (fun _ hh => hh) rfl dX8_stepOverRun_75 ?_
        refine lv_topl (fun z22 ez22 => ?_)
        clear ez22
        refine lv_iconst (v := 5) hx hb dX8_stepOverRun_78 (by decide) ?_
        refine lv_lshl hx hb dX8_stepOverRun_79 rfl ?_
        refine lv_topl (fun z23 ez23 => ?_)
        clear ez23
        refine lv_iload_n hx hb dX8_stepOverRun_80 rfl (lv_at hl 1 rfl) ?_
        refine lv_bipush (v := 97) hx hb dX8_stepOverRun_81 (by decide) ?_
        refine lv_isub hx hb dX8_stepOverRun_83 ?_
        refine lv_topi (fun z24 ez24 => ?_)
        clear ez24
        refine lv_iconst (v := 1) hx hb dX8_stepOverRun_84 (by decide) ?_
        refine lv_iadd hx hb dX8_stepOverRun_85 ?_
        refine lv_topi (fun z25 ez25 => ?_)
        clear ez25
        refine lv_i2l hx hb dX8_stepOverRun_86 rfl ?_
        refine lv_topl (fun z26 ez26 => ?_)
        clear ez26
        refine lv_lor hx hb dX8_stepOverRun_87 ?_
        refine lv_topl (fun z27 ez27 => ?_)
        clear ez27
        refine va_put (D := (dC, dI)) (ci := 9) (v := .long z27) (ty := .long) (C := RX8) (T := TX8) (N := 15) hx hb hts ii_X8_stepOverRun_X8 tyX8 tyX8_ok nmX8 hown hK hP (xD hN _ _ _ _ _ _) hS 1 (xw_is (r := 1) (by omega) (xc_fix (r := 1) (by omega))) rfl 8 (by decide) (hts _ mm_X8_stepOverRun_1) (fun _ hh => hh) rfl (by decide +kernel) rfl rfl (Nat.le_of_ble_eq_true rfl) dX8_stepOverRun_88 (fun H locs hP _ hS => ?_)
        have hP : va_P (dC, dI) vwCl (xw A C nb st5 (upL sl6 1 8 z27) so) H := by rw [← xsetL (r := 1) (k := 8) (v := z27) (xc_fix (r := 1) (by omega))]; exact hP
        obtain ⟨sl28, esl28⟩ : ∃ y, y = upL sl6 1 8 z27 := ⟨_, rfl⟩
        rw [← esl28] at hP
        have hL : LGq sl sl28 := by rw [esl28]; exact hL.up (by omega)
        clear esl28
        refine lv_goto (tgt := 110) hx hb dX8_stepOverRun_91 (by decide) ?_
        refine lv_aload_n hx hb dX8_stepOverRun_110 rfl (lv_at hl 2 rfl) ?_
        refine lv_dup hx hb dX8_stepOverRun_111 rfl ?_
        refine va_get (D := (dC, dI)) (ci := 9) (v := .int (st5 1 3)) (C := RX8) (T := TX8) (N := 15) hx hb hts ii_X8_stepOverRun_X8 hown hK hP 1 (xw_is (r := 1) (by omega) (xc_fix (r := 1) (by omega))) rfl 3 (by decide) (hts _ mm_X8_stepOverRun_3) (fun _ hh => hh) rfl dX8_stepOverRun_112 ?_
        refine zz_top (v := (nI g7)) (by show st5 1 3 = _; rw [eg7]) ?_
        refine lv_iconst (v := 1) hx hb dX8_stepOverRun_115 (by decide) ?_
        refine lv_iadd hx hb dX8_stepOverRun_116 ?_
        refine zz_top (v := nI (g7 + 1)) (nI_add g7 1) ?_
        refine va_put (D := (dC, dI)) (ci := 9) (v := .int (nI (g7 + 1))) (ty := .int) (C := RX8) (T := TX8) (N := 15) hx hb hts ii_X8_stepOverRun_X8 tyX8 tyX8_ok nmX8 hown hK hP (xD hN _ _ _ _ _ _) hS 1 (xw_is (r := 1) (by omega) (xc_fix (r := 1) (by omega))) rfl 3 (by decide) (hts _ mm_X8_stepOverRun_3) (fun _ hh => hh) rfl (by decide +kernel) rfl rfl (Nat.le_of_ble_eq_true rfl) dX8_stepOverRun_117 (fun H locs hP _ hS => ?_)
        have hP : va_P (dC, dI) vwCl (xw A C nb (up2 st5 1 3 (nI (g7 + 1))) sl28 so) H := by rw [← xset (r := 1) (k := 3) (v := (nI (g7 + 1))) (xc_fix (r := 1) (by omega))]; exact hP
        obtain ⟨st29, est29⟩ : ∃ y, y = up2 st5 1 3 (nI (g7 + 1)) := ⟨_, rfl⟩
        have hG : XG [1, 2, 3, 4, 5, 6, 7, 8, 9, 10, 11, 12, 13, 14, 15] st st29 := by rw [est29]; exact hG.up (xn (n := (g7 + 1)) (b := 941) (by decide : xrg 1 3 = 941) (by omega)) (xpn (c := 0) (by decide : xcl 1 3 = 0) (by decide))
        rw [← est29] at hP
        refine lv_goto (tgt := 12) hx hb dX8_stepOverRun_120 (by decide) ?_
        exact ih9 (941 - (g7 + 1)) _ _ _ _ (by omega) ⟨z21, st29, sl28, (g7 + 1), rfl, by omega, by rw [est29, up2_same], hP, hG, hL, hS, lv_sub hl [0, 2] rfl, rfl⟩
      · refine lv_if_eq (tgt := 94) hx hb dX8_stepOverRun_67 (by decide) (fun _ => ?_) (fun cc => absurd (by decide) cc)
        refine lv_aload_n hx hb dX8_stepOverRun_94 rfl (lv_at hl 2 rfl) ?_
        refine lv_aload_n hx hb dX8_stepOverRun_95 rfl (lv_at hl 2 rfl) ?_
        refine va_get (D := (dC, dI)) (ci := 9) (v := .int (st5 1 6)) (C := RX8) (T := TX8) (N := 15) hx hb hts ii_X8_stepOverRun_X8 hown hK hP 1 (xw_is (r := 1) (by omega) (xc_fix (r := 1) (by omega))) rfl 6 (by decide) (hts _ mm_X8_stepOverRun_2) (fun _ hh => hh) rfl dX8_stepOverRun_96 ?_
        obtain ⟨z30, ez30⟩ : ∃ y : Int32, st5 1 6 = y := ⟨_, rfl⟩
        refine zz_top (v := z30) (by exact ez30) ?_
        refine lv_bipush (v := 10) hx hb dX8_stepOverRun_99 (by decide) ?_
        refine lv_imul hx hb dX8_stepOverRun_101 ?_
        refine lv_topi (fun z31 ez31 => ?_)
        clear ez31
        refine lv_iload_n hx hb dX8_stepOverRun_102 rfl (lv_at hl 0 rfl) ?_
        refine lv_iadd hx hb dX8_stepOverRun_103 ?_
        refine lv_topi (fun z32 ez32 => ?_)
        clear ez32
        refine lv_bipush (v := 48) hx hb dX8_stepOverRun_104 (by decide) ?_
        refine lv_isub hx hb dX8_stepOverRun_106 ?_
        refine lv_topi (fun z33 ez33 => ?_)
        clear ez33
        refine va_put (D := (dC, dI)) (ci := 9) (v := .int z33) (ty := .int) (C := RX8) (T := TX8) (N := 15) hx hb hts ii_X8_stepOverRun_X8 tyX8 tyX8_ok nmX8 hown hK hP (xD hN _ _ _ _ _ _) hS 1 (xw_is (r := 1) (by omega) (xc_fix (r := 1) (by omega))) rfl 6 (by decide) (hts _ mm_X8_stepOverRun_2) (fun _ hh => hh) rfl (by decide +kernel) rfl rfl (Nat.le_of_ble_eq_true rfl) dX8_stepOverRun_107 (fun H locs hP _ hS => ?_)
        have hP : va_P (dC, dI) vwCl (xw A C nb (up2 st5 1 6 z33) sl6 so) H := by rw [← xset (r := 1) (k := 6) (v := z33) (xc_fix (r := 1) (by omega))]; exact hP
        obtain ⟨st34, est34⟩ : ∃ y, y = up2 st5 1 6 z33 := ⟨_, rfl⟩
        have hG : XG [1, 2, 3, 4, 5, 6, 7, 8, 9, 10, 11, 12, 13, 14, 15] st st34 := by rw [est34]; exact hG.up (xz (r := 1) (k := 6) (by decide : xrg 1 6 = 0)) (xpn (c := 0) (by decide : xcl 1 6 = 0) (by decide))
        rw [← est34] at hP
        refine lv_aload_n hx hb dX8_stepOverRun_110 rfl (lv_at hl 2 rfl) ?_
        refine lv_dup hx hb dX8_stepOverRun_111 rfl ?_
        refine va_get (D := (dC, dI)) (ci := 9) (v := .int (st34 1 3)) (C := RX8) (T := TX8) (N := 15) hx hb hts ii_X8_stepOverRun_X8 hown hK hP 1 (xw_is (r := 1) (by omega) (xc_fix (r := 1) (by omega))) rfl 3 (by decide) (hts _ mm_X8_stepOverRun_3) (fun _ hh => hh) rfl dX8_stepOverRun_112 ?_
        refine zz_top (v := (nI g7)) (by show st34 1 3 = _; rw [est34, up2_ne (r := 1) (k := 6) (a := 1) (j := 3) _ _ (by omega), eg7]) ?_
        refine lv_iconst (v := 1) hx hb dX8_stepOverRun_115 (by decide) ?_
        refine lv_iadd hx hb dX8_stepOverRun_116 ?_
        refine zz_top (v := nI (g7 + 1)) (nI_add g7 1) ?_
        refine va_put (D := (dC, dI)) (ci := 9) (v := .int (nI (g7 + 1))) (ty := .int) (C := RX8) (T := TX8) (N := 15) hx hb hts ii_X8_stepOverRun_X8 tyX8 tyX8_ok nmX8 hown hK hP (xD hN _ _ _ _ _ _) hS 1 (xw_is (r := 1) (by omega) (xc_fix (r := 1) (by omega))) rfl 3 (by decide) (hts _ mm_X8_stepOverRun_3) (fun _ hh => hh) rfl (by decide +kernel) rfl rfl (Nat.le_of_ble_eq_true rfl) dX8_stepOverRun_117 (fun H locs hP _ hS => ?_)
        have hP : va_P (dC, dI) vwCl (xw A C nb (up2 st34 1 3 (nI (g7 + 1))) sl6 so) H := by rw [← xset (r := 1) (k := 3) (v := (nI (g7 + 1))) (xc_fix (r := 1) (by omega))]; exact hP
        obtain ⟨st35, est35⟩ : ∃ y, y = up2 st34 1 3 (nI (g7 + 1)) := ⟨_, rfl⟩
        have hG : XG [1, 2, 3, 4, 5, 6, 7, 8, 9, 10, 11, 12, 13, 14, 15] st st35 := by rw [est35]; exact hG.up (xn (n := (g7 + 1)) (b := 941) (by decide : xrg 1 3 = 941) (by omega)) (xpn (c := 0) (by decide : xcl 1 3 = 0) (by decide))
        rw [← est35] at hP
        refine lv_goto (tgt := 12) hx hb dX8_stepOverRun_120 (by decide) ?_
        exact ih9 (941 - (g7 + 1)) _ _ _ _ (by omega) ⟨z4, st35, sl6, (g7 + 1), rfl, by omega, by rw [est35, up2_same], hP, hG, hL, hS, lv_sub hl [1, 2] rfl, rfl⟩
    · refine lv_if_ne (tgt := 53) hx hb dX8_stepOverRun_35 (by decide) (fun cc => absurd (by decide) cc) (fun _ => ?_)
      refine lv_aload_n hx hb dX8_stepOverRun_38 rfl (lv_at hl 1 rfl) ?_
      refine va_get (D := (dC, dI)) (ci := 9) (v := .ref (A 2)) (C := RX8) (T := TX8) (N := 15) hx hb hts ii_X8_stepOverRun_X8 hown hK hP 1 (xw_is (r := 1) (by omega) (xc_fix (r := 1) (by omega))) rfl 0 (by decide) (hts _ mm_X8_stepOverRun_5) (fun _ hh => hh) rfl dX8_stepOverRun_39 ?_
      refine lv_aload_n hx hb dX8_stepOverRun_42 rfl (lv_at hl 1 rfl) ?_
      refine va_get (D := (dC, dI)) (ci := 9) (v := .int (st5 1 3)) (C := RX8) (T := TX8) (N := 15) hx hb hts ii_X8_stepOverRun_X8 hown hK hP 1 (xw_is (r := 1) (by omega) (xc_fix (r := 1) (by omega))) rfl 3 (by decide) (hts _ mm_X8_stepOverRun_3) (fun _ hh => hh) rfl dX8_stepOverRun_43 ?_
      refine zz_top (v := (nI g7)) (by show st5 1 3 = _; rw [eg7]) ?_
      refine va_bald hx hb hK hP 2 2 (xw_is (r := 2) (by omega) (xc_fix (r := 2) (by omega))) (xt_is (r := 2) (by omega) rfl) (i := (nI g7)) (vp_in_nI (by omega) (by decide)) dX8_stepOverRun_46 ?_
      refine zz_top (v := z18) (by rw [nI_clamp (by omega)]; show st5 2 g7 = _; rw [ez18]) ?_
      refine va_calli (va_runS (As := [.int z18]) (rest := []) ⟨hx, hb, hml, hown, hts⟩ (x_X8_isDigit l dC dI ad E hEE A C nb _ hN st5 sl6 so z18  hG.1) (va_cwS 1 hts gX8_stepOverRun_X8_isDigit rfl rfl rfl (by decide +kernel) ⟨Nat.le_of_ble_eq_true rfl, Nat.le_of_ble_eq_true rfl⟩) ⟨fun a U g mk q => ⟨q.1, xPre.blind hEE q.2⟩, fun U hU hW => ⟨rfl, xPre.of hEE hP hK hE hS hU hW⟩⟩ rfl rfl hl.1 rfl (lv_room (Nat.le_of_ble_eq_true rfl)) dX8_stepOverRun_47 ⟨Nat.le_of_ble_eq_true rfl, Nat.le_of_ble_eq_true rfl⟩) hS (fun q _ h => XA.le hS.1 q h) (XA.le hS.1) (fun r36 x t H locs ht hvm hw hB _ _ hS => ?_)
      have hP := xB.at ht hB
      clear hB ht hvm
      obtain ⟨rfl, hw⟩ := hw
      have hP : va_P (dC, dI) vwCl (xw A C nb st5 sl6 so) _ := hP
      rcases hw with rfl | rfl
      · refine lv_if_eq (tgt := 123) hx hb dX8_stepOverRun_50 (by decide) (fun cc => absurd cc (by decide)) (fun _ => ?_)
        refine lv_aload_n hx hb dX8_stepOverRun_53 rfl (lv_at hl 1 rfl) ?_
        refine va_get (D := (dC, dI)) (ci := 9) (v := .ref (A 2)) (C := RX8) (T := TX8) (N := 15) hx hb hts ii_X8_stepOverRun_X8 hown hK hP 1 (xw_is (r := 1) (by omega) (xc_fix (r := 1) (by omega))) rfl 0 (by decide) (hts _ mm_X8_stepOverRun_5) (fun _ hh => hh) rfl dX8_stepOverRun_54 ?_
        refine lv_aload_n hx hb dX8_stepOverRun_57 rfl (lv_at hl 1 rfl) ?_
        refine va_get (D := (dC, dI)) (ci := 9) (v := .int (st5 1 3)) (C := RX8) (T := TX8) (N := 15) hx hb hts ii_X8_stepOverRun_X8 hown hK hP 1 (xw_is (r := 1) (by omega) (xc_fix (r := 1) (by omega))) rfl 3 (by decide) (hts _ mm_X8_stepOverRun_3) (fun _ hh => hh) rfl dX8_stepOverRun_58 ?_
        refine zz_top (v := (nI g7)) (by show st5 1 3 = _; rw [eg7]) ?_
        refine va_bald hx hb hK hP 2 2 (xw_is (r := 2) (by omega) (xc_fix (r := 2) (by omega))) (xt_is (r := 2) (by omega) rfl) (i := (nI g7)) (vp_in_nI (by omega) (by decide)) dX8_stepOverRun_61 ?_
        refine zz_top (v := z18) (by rw [nI_clamp (by omega)]; show st5 2 g7 = _; rw [ez18]) ?_
        refine lv_istore_n (lv' := [(2, .int z18), (1, .int z4), (0, .ref (A 1))]) hx hb dX8_stepOverRun_62 rfl hl (by decide) rfl (fun ls hl => ?_)
        refine lv_iload_n hx hb dX8_stepOverRun_63 rfl (lv_at hl 0 rfl) ?_
        refine va_calli (va_runS (As := [.int z18]) (rest := []) ⟨hx, hb, hml, hown, hts⟩ (x_X8_isLetter l dC dI ad E hEE A C nb _ hN st5 sl6 so z18  hG.1) (va_cwS 1 hts gX8_stepOverRun_X8_isLetter rfl rfl rfl (by decide +kernel) ⟨Nat.le_of_ble_eq_true rfl, Nat.le_of_ble_eq_true rfl⟩) ⟨fun a U g mk q => ⟨q.1, xPre.blind hEE q.2⟩, fun U hU hW => ⟨rfl, xPre.of hEE hP hK hE hS hU hW⟩⟩ rfl rfl hl.1 rfl (lv_room (Nat.le_of_ble_eq_true rfl)) dX8_stepOverRun_64 ⟨Nat.le_of_ble_eq_true rfl, Nat.le_of_ble_eq_true rfl⟩) hS (fun q _ h => XA.le hS.1 q h) (XA.le hS.1) (fun r37 x t H locs ht hvm hw hB _ _ hS => ?_)
        have hP := xB.at ht hB
        clear hB ht hvm
        obtain ⟨rfl, hw⟩ := hw
        have hP : va_P (dC, dI) vwCl (xw A C nb st5 sl6 so) _ := hP
        rcases hw with rfl | rfl
        · refine lv_if_eq (tgt := 94) hx hb dX8_stepOverRun_67 (by decide) (fun cc => absurd cc (by decide)) (fun _ => ?_)
          obtain ⟨z38, ez38⟩ : ∃ y : Int32, y = z4 + 1 := ⟨_, rfl⟩
          refine lv_iinc (v := z38) (lv' := [(1, .int z38), (2, .int z18), (0, .ref (A 1))]) hx hb dX8_stepOverRun_70 hl (k := 1) rfl (by rw [ez38]; rfl) (by decide) rfl (fun ls hl => ?_)
          refine lv_aload_n hx hb dX8_stepOverRun_73 rfl (lv_at hl 2 rfl) ?_
          refine lv_aload_n hx hb dX8_stepOverRun_74 rfl (lv_at hl 2 rfl) ?_
          refine va_get (D := (dC, dI)) (ci := 9) (v := .long (sl6 1 8)) (C := RX8) (T := TX8) (N := 15) hx hb hts ii_X8_stepOverRun_X8 hown hK hP 1 (xw_is (r := 1) (by omega) (xc_fix (r := 1) (by omega))) rfl 8 (by decide) (hts _ mm_X8_stepOverRun_1) (fun _ hh => hh) rfl dX8_stepOverRun_75 ?_
          refine lv_topl (fun z39 ez39 => ?_)
          clear ez39
          refine lv_iconst (v := 5) hx hb dX8_stepOverRun_78 (by decide) ?_
          refine lv_lshl hx hb dX8_stepOverRun_79 rfl ?_
          refine lv_topl (fun z40 ez40 => ?_)
          clear ez40
          refine lv_iload_n hx hb dX8_stepOverRun_80 rfl (lv_at hl 1 rfl) ?_
          refine lv_bipush (v := 97) hx hb dX8_stepOverRun_81 (by decide) ?_
          refine lv_isub hx hb dX8_stepOverRun_83 ?_
          refine lv_topi (fun z41 ez41 => ?_)
          clear ez41
          refine lv_iconst (v := 1) hx hb dX8_stepOverRun_84 (by decide) ?_
          refine lv_iadd hx hb dX8_stepOverRun_85 ?_
          refine lv_topi (fun z42 ez42 => ?_)
          clear ez42
          refine lv_i2l hx hb dX8_stepOverRun_86 rfl ?_
          refine lv_topl (fun z43 ez43 => ?_)
          clear ez43
          refine lv_lor hx hb dX8_stepOverRun_87 ?_
          refine lv_topl (fun z44 ez44 => ?_)
          clear ez44
          refine va_put (D := (dC, dI)) (ci := 9) (v := .long z44) (ty := .long) (C := RX8) (T := TX8) (N := 15) hx hb hts ii_X8_stepOverRun_X8 tyX8 tyX8_ok nmX8 hown hK hP (xD hN _ _ _ _ _ _) hS 1 (xw_is (r := 1) (by omega) (xc_fix (r := 1) (by omega))) rfl 8 (by decide) (hts _ mm_X8_stepOverRun_1) (fun _ hh => hh) rfl (by decide +kernel) rfl rfl (Nat.le_of_ble_eq_true rfl) dX8_stepOverRun_88 (fun H locs hP _ hS => ?_)
          have hP : va_P (dC, dI) vwCl (xw A C nb st5 (upL sl6 1 8 z44) so) H := by rw [← xsetL (r := 1) (k := 8) (v := z44) (xc_fix (r := 1) (by omega))]; exact hP
          obtain ⟨sl45, esl45⟩ : ∃ y, y = upL sl6 1 8 z44 := ⟨_, rfl⟩
          rw [← esl45] at hP
          have hL : LGq sl sl45 := by rw [esl45]; exact hL.up (by omega)
          clear esl45
          refine lv_goto (tgt := 110) hx hb dX8_stepOverRun_91 (by decide) ?_
          refine lv_aload_n hx hb dX8_stepOverRun_110 rfl (lv_at hl 2 rfl) ?_
          refine lv_dup hx hb dX8_stepOverRun_111 rfl ?_
          refine va_get (D := (dC, dI)) (ci := 9) (v := .int (st5 1 3)) (C := RX8) (T := TX8) (N := 15) hx hb hts ii_X8_stepOverRun_X8 hown hK hP 1 (xw_is (r := 1) (by omega) (xc_fix (r := 1) (by omega))) rfl 3 (by decide) (hts _ mm_X8_stepOverRun_3) (fun _ hh => hh) rfl dX8_stepOverRun_112 ?_
          refine zz_top (v := (nI g7)) (by show st5 1 3 = _; rw [eg7]) ?_
          refine lv_iconst (v := 1) hx hb dX8_stepOverRun_115 (by decide) ?_
          refine lv_iadd hx hb dX8_stepOverRun_116 ?_
          refine zz_top (v := nI (g7 + 1)) (nI_add g7 1) ?_
          refine va_put (D := (dC, dI)) (ci := 9) (v := .int (nI (g7 + 1))) (ty := .int) (C := RX8) (T := TX8) (N := 15) hx hb hts ii_X8_stepOverRun_X8 tyX8 tyX8_ok nmX8 hown hK hP (xD hN _ _ _ _ _ _) hS 1 (xw_is (r := 1) (by omega) (xc_fix (r := 1) (by omega))) rfl 3 (by decide) (hts _ mm_X8_stepOverRun_3) (fun _ hh => hh) rfl (by decide +kernel) rfl rfl (Nat.le_of_ble_eq_true rfl) dX8_stepOverRun_117 (fun H locs hP _ hS => ?_)
          have hP : va_P (dC, dI) vwCl (xw A C nb (up2 st5 1 3 (nI (g7 + 1))) sl45 so) H := by rw [← xset (r := 1) (k := 3) (v := (nI (g7 + 1))) (xc_fix (r := 1) (by omega))]; exact hP
          obtain ⟨st46, est46⟩ : ∃ y, y = up2 st5 1 3 (nI (g7 + 1)) := ⟨_, rfl⟩
          have hG : XG [1, 2, 3, 4, 5, 6, 7, 8, 9, 10, 11, 12, 13, 14, 15] st st46 := by rw [est46]; exact hG.up (xn (n := (g7 + 1)) (b := 941) (by decide : xrg 1 3 = 941) (by omega)) (xpn (c := 0) (by decide : xcl 1 3 = 0) (by decide))
          rw [← est46] at hP
          refine lv_goto (tgt := 12) hx hb dX8_stepOverRun_120 (by decide) ?_
          exact ih9 (941 - (g7 + 1)) _ _ _ _ (by omega) ⟨z38, st46, sl45, (g7 + 1), rfl, by omega, by rw [est46, up2_same], hP, hG, hL, hS, lv_sub hl [0, 2] rfl, rfl⟩
        · refine lv_if_eq (tgt := 94) hx hb dX8_stepOverRun_67 (by decide) (fun _ => ?_) (fun cc => absurd (by decide) cc)
          refine lv_aload_n hx hb dX8_stepOverRun_94 rfl (lv_at hl 2 rfl) ?_
          refine lv_aload_n hx hb dX8_stepOverRun_95 rfl (lv_at hl 2 rfl) ?_
          refine va_get (D := (dC, dI)) (ci := 9) (v := .int (st5 1 6)) (C := RX8) (T := TX8) (N := 15) hx hb hts ii_X8_stepOverRun_X8 hown hK hP 1 (xw_is (r := 1) (by omega) (xc_fix (r := 1) (by omega))) rfl 6 (by decide) (hts _ mm_X8_stepOverRun_2) (fun _ hh => hh) rfl dX8_stepOverRun_96 ?_
          obtain ⟨z47, ez47⟩ : ∃ y : Int32, st5 1 6 = y := ⟨_, rfl⟩
          refine zz_top (v := z47) (by exact ez47) ?_
          refine lv_bipush (v := 10) hx hb dX8_stepOverRun_99 (by decide) ?_
          refine lv_imul hx hb dX8_stepOverRun_101 ?_
          refine lv_topi (fun z48 ez48 => ?_)
          clear ez48
          refine lv_iload_n hx hb dX8_stepOverRun_102 rfl (lv_at hl 0 rfl) ?_
          refine lv_iadd hx hb dX8_stepOverRun_103 ?_
          refine lv_topi (fun z49 ez49 => ?_)
          clear ez49
          refine lv_bipush (v := 48) hx hb dX8_stepOverRun_104 (by decide) ?_
          refine lv_isub hx hb dX8_stepOverRun_106 ?_
          refine lv_topi (fun z50 ez50 => ?_)
          clear ez50
          refine va_put (D := (dC, dI)) (ci := 9) (v := .int z50) (ty := .int) (C := RX8) (T := TX8) (N := 15) hx hb hts ii_X8_stepOverRun_X8 tyX8 tyX8_ok nmX8 hown hK hP (xD hN _ _ _ _ _ _) hS 1 (xw_is (r := 1) (by omega) (xc_fix (r := 1) (by omega))) rfl 6 (by decide) (hts _ mm_X8_stepOverRun_2) (fun _ hh => hh) rfl (by decide +kernel) rfl rfl (Nat.le_of_ble_eq_true rfl) dX8_stepOverRun_107 (fun H locs hP _ hS => ?_)
          have hP : va_P (dC, dI) vwCl (xw A C nb (up2 st5 1 6 z50) sl6 so) H := by rw [← xset (r := 1) (k := 6) (v := z50) (xc_fix (r := 1) (by omega))]; exact hP
          obtain ⟨st51, est51⟩ : ∃ y, y = up2 st5 1 6 z50 := ⟨_, rfl⟩
          have hG : XG [1, 2, 3, 4, 5, 6, 7, 8, 9, 10, 11, 12, 13, 14, 15] st st51 := by rw [est51]; exact hG.up (xz (r := 1) (k := 6) (by decide : xrg 1 6 = 0)) (xpn (c := 0) (by decide : xcl 1 6 = 0) (by decide))
          rw [← est51] at hP
          refine lv_aload_n hx hb dX8_stepOverRun_110 rfl (lv_at hl 2 rfl) ?_
          refine lv_dup hx hb dX8_stepOverRun_111 rfl ?_
          refine va_get (D := (dC, dI)) (ci := 9) (v := .int (st51 1 3)) (C := RX8) (T := TX8) (N := 15) hx hb hts ii_X8_stepOverRun_X8 hown hK hP 1 (xw_is (r := 1) (by omega) (xc_fix (r := 1) (by omega))) rfl 3 (by decide) (hts _ mm_X8_stepOverRun_3) (fun _ hh => hh) rfl dX8_stepOverRun_112 ?_
          refine zz_top (v := (nI g7)) (by show st51 1 3 = _; rw [est51, up2_ne (r := 1) (k := 6) (a := 1) (j := 3) _ _ (by omega), eg7]) ?_
          refine lv_iconst (v := 1) hx hb dX8_stepOverRun_115 (by decide) ?_
          refine lv_iadd hx hb dX8_stepOverRun_116 ?_
          refine zz_top (v := nI (g7 + 1)) (nI_add g7 1) ?_
          refine va_put (D := (dC, dI)) (ci := 9) (v := .int (nI (g7 + 1))) (ty := .int) (C := RX8) (T := TX8) (N := 15) hx hb hts ii_X8_stepOverRun_X8 tyX8 tyX8_ok nmX8 hown hK hP (xD hN _ _ _ _ _ _) hS 1 (xw_is (r := 1) (by omega) (xc_fix (r := 1) (by omega))) rfl 3 (by decide) (hts _ mm_X8_stepOverRun_3) (fun _ hh => hh) rfl (by decide +kernel) rfl rfl (Nat.le_of_ble_eq_true rfl) dX8_stepOverRun_117 (fun H locs hP _ hS => ?_)
          have hP : va_P (dC, dI) vwCl (xw A C nb (up2 st51 1 3 (nI (g7 + 1))) sl6 so) H := by rw [← xset (r := 1) (k := 3) (v := (nI (g7 + 1))) (xc_fix (r := 1) (by omega))]; exact hP
          obtain ⟨st52, est52⟩ : ∃ y, y = up2 st51 1 3 (nI (g7 + 1)) := ⟨_, rfl⟩
          have hG : XG [1, 2, 3, 4, 5, 6, 7, 8, 9, 10, 11, 12, 13, 14, 15] st st52 := by rw [est52]; exact hG.up (xn (n := (g7 + 1)) (b := 941) (by decide : xrg 1 3 = 941) (by omega)) (xpn (c := 0) (by decide : xcl 1 3 = 0) (by decide))
          rw [← est52] at hP
          refine lv_goto (tgt := 12) hx hb dX8_stepOverRun_120 (by decide) ?_
          exact ih9 (941 - (g7 + 1)) _ _ _ _ (by omega) ⟨z4, st52, sl6, (g7 + 1), rfl, by omega, by rw [est52, up2_same], hP, hG, hL, hS, lv_sub hl [1, 2] rfl, rfl⟩
      · refine lv_if_eq (tgt := 123) hx hb dX8_stepOverRun_50 (by decide) (fun _ => ?_) (fun cc => absurd (by decide) cc)
        refine lv_aload_n hx hb dX8_stepOverRun_123 rfl (lv_at hl 1 rfl) ?_
        refine va_get (D := (dC, dI)) (ci := 9) (v := .int (st5 1 3)) (C := RX8) (T := TX8) (N := 15) hx hb hts ii_X8_stepOverRun_X8 hown hK hP 1 (xw_is (r := 1) (by omega) (xc_fix (r := 1) (by omega))) rfl 3 (by decide) (hts _ mm_X8_stepOverRun_3) (fun _ hh => hh) rfl dX8_stepOverRun_124 ?_
        refine zz_top (v := (nI g7)) (by show st5 1 3 = _; rw [eg7]) ?_
        refine lv_aload_n hx hb dX8_stepOverRun_127 rfl (lv_at hl 1 rfl) ?_
        refine va_get (D := (dC, dI)) (ci := 9) (v := .int (st5 1 5)) (C := RX8) (T := TX8) (N := 15) hx hb hts ii_X8_stepOverRun_X8 hown hK hP 1 (xw_is (r := 1) (by omega) (xc_fix (r := 1) (by omega))) rfl 5 (by decide) (hts _ mm_X8_stepOverRun_6) (fun _ hh => hh) rfl dX8_stepOverRun_128 ?_
        obtain ⟨n53, hn53, en53⟩ := hG.1.at (r := 1) (k := 5) (b := 941) (by decide : xrg 1 5 = 941) (by decide)
        refine zz_top (v := nI n53) (by exact en53) ?_
        refine lv_isub hx hb dX8_stepOverRun_131 ?_
        refine lv_topi (fun z54 ez54 => ?_)
        clear ez54
        refine lv_istore_n (lv' := [(2, .int z54), (1, .int z4), (0, .ref (A 1))]) hx hb dX8_stepOverRun_132 rfl hl (by decide) rfl (fun ls hl => ?_)
        refine lv_iload_n hx hb dX8_stepOverRun_133 rfl (lv_at hl 1 rfl) ?_
        refine lv_iload_n hx hb dX8_stepOverRun_134 rfl (lv_at hl 0 rfl) ?_
        refine lv_icmp_ne (tgt := 156) hx hb dX8_stepOverRun_135 (by decide) (fun c14 => ?_) (fun c14 => ?_)
        · refine lv_aload_n hx hb dX8_stepOverRun_156 rfl (lv_at hl 2 rfl) ?_
          refine lv_iload_n hx hb dX8_stepOverRun_157 rfl (lv_at hl 1 rfl) ?_
          refine lv_if_ne (tgt := 170) hx hb dX8_stepOverRun_158 (by decide) (fun c15 => ?_) (fun c15 => ?_)
          · refine lv_iconst (v := 4) hx hb dX8_stepOverRun_170 (by decide) ?_
            refine va_put (D := (dC, dI)) (ci := 9) (v := .int 4) (ty := .int) (C := RX8) (T := TX8) (N := 15) hx hb hts ii_X8_stepOverRun_X8 tyX8 tyX8_ok nmX8 hown hK hP (xD hN _ _ _ _ _ _) hS 1 (xw_is (r := 1) (by omega) (xc_fix (r := 1) (by omega))) rfl 4 (by decide) (hts _ mm_X8_stepOverRun_7) (fun _ hh => hh) rfl (by decide +kernel) rfl rfl (Nat.le_of_ble_eq_true rfl) dX8_stepOverRun_171 (fun H locs hP _ hS => ?_)
            have hP : va_P (dC, dI) vwCl (xw A C nb (up2 st5 1 4 4) sl6 so) H := by rw [← xset (r := 1) (k := 4) (v := 4) (xc_fix (r := 1) (by omega))]; exact hP
            obtain ⟨st55, est55⟩ : ∃ y, y = up2 st5 1 4 4 := ⟨_, rfl⟩
            have hG : XG [1, 2, 3, 4, 5, 6, 7, 8, 9, 10, 11, 12, 13, 14, 15] st st55 := by rw [est55]; exact hG.up (xz (r := 1) (k := 4) (by decide : xrg 1 4 = 0)) (xpn (c := 0) (by decide : xcl 1 4 = 0) (by decide))
            rw [← est55] at hP
            exact W.vret hx hb hr (fun t ht hW => ⟨⟨(st55, sl6, so), rfl, ⟨hG, hL, rfl, trivial⟩, xB.of ht hP⟩, hS.F ht⟩) hS.2.2 dX8_stepOverRun_174
          · refine lv_iload_n hx hb dX8_stepOverRun_161 rfl (lv_at hl 0 rfl) ?_
            refine lv_iconst (v := 3) hx hb dX8_stepOverRun_162 (by decide) ?_
            refine lv_icmp_gt (tgt := 170) hx hb dX8_stepOverRun_163 (by decide) (fun c16 => ?_) (fun c16 => ?_)
            · refine lv_iconst (v := 4) hx hb dX8_stepOverRun_170 (by decide) ?_
              refine va_put (D := (dC, dI)) (ci := 9) (v := .int 4) (ty := .int) (C := RX8) (T := TX8) (N := 15) hx hb hts ii_X8_stepOverRun_X8 tyX8 tyX8_ok nmX8 hown hK hP (xD hN _ _ _ _ _ _) hS 1 (xw_is (r := 1) (by omega) (xc_fix (r := 1) (by omega))) rfl 4 (by decide) (hts _ mm_X8_stepOverRun_7) (fun _ hh => hh) rfl (by decide +kernel) rfl rfl (Nat.le_of_ble_eq_true rfl) dX8_stepOverRun_171 (fun H locs hP _ hS => ?_)
              have hP : va_P (dC, dI) vwCl (xw A C nb (up2 st5 1 4 4) sl6 so) H := by rw [← xset (r := 1) (k := 4) (v := 4) (xc_fix (r := 1) (by omega))]; exact hP
              obtain ⟨st56, est56⟩ : ∃ y, y = up2 st5 1 4 4 := ⟨_, rfl⟩
              have hG : XG [1, 2, 3, 4, 5, 6, 7, 8, 9, 10, 11, 12, 13, 14, 15] st st56 := by rw [est56]; exact hG.up (xz (r := 1) (k := 4) (by decide : xrg 1 4 = 0)) (xpn (c := 0) (by decide : xcl 1 4 = 0) (by decide))
              rw [← est56] at hP
              exact W.vret hx hb hr (fun t ht hW => ⟨⟨(st56, sl6, so), rfl, ⟨hG, hL, rfl, trivial⟩, xB.of ht hP⟩, hS.F ht⟩) hS.2.2 dX8_stepOverRun_174
            · refine lv_iconst (v := 1) hx hb dX8_stepOverRun_166 (by decide) ?_
              refine lv_goto (tgt := 171) hx hb dX8_stepOverRun_167 (by decide) ?_
              refine va_put (D := (dC, dI)) (ci := 9) (v := .int 1) (ty := .int) (C := RX8) (T := TX8) (N := 15) hx hb hts ii_X8_stepOverRun_X8 tyX8 tyX8_ok nmX8 hown hK hP (xD hN _ _ _ _ _ _) hS 1 (xw_is (r := 1) (by omega) (xc_fix (r := 1) (by omega))) rfl 4 (by decide) (hts _ mm_X8_stepOverRun_7) (fun _ hh => hh) rfl (by decide +kernel) rfl rfl (Nat.le_of_ble_eq_true rfl) dX8_stepOverRun_171 (fun H locs hP _ hS => ?_)
              have hP : va_P (dC, dI) vwCl (xw A C nb (up2 st5 1 4 1) sl6 so) H := by rw [← xset (r := 1) (k := 4) (v := 1) (xc_fix (r := 1) (by omega))]; exact hP
              obtain ⟨st57, est57⟩ : ∃ y, y = up2 st5 1 4 1 := ⟨_, rfl⟩
              have hG : XG [1, 2, 3, 4, 5, 6, 7, 8, 9, 10, 11, 12, 13, 14, 15] st st57 := by rw [est57]; exact hG.up (xz (r := 1) (k := 4) (by decide : xrg 1 4 = 0)) (xpn (c := 0) (by decide : xcl 1 4 = 0) (by decide))
              rw [← est57] at hP
              exact W.vret hx hb hr (fun t ht hW => ⟨⟨(st57, sl6, so), rfl, ⟨hG, hL, rfl, trivial⟩, xB.of ht hP⟩, hS.F ht⟩) hS.2.2 dX8_stepOverRun_174
        · refine lv_aload_n hx hb dX8_stepOverRun_138 rfl (lv_at hl 2 rfl) ?_
          refine lv_iload_n hx hb dX8_stepOverRun_139 rfl (lv_at hl 0 rfl) ?_
          refine lv_bipush (v := 7) hx hb dX8_stepOverRun_140 (by decide) ?_
          refine lv_icmp_gt (tgt := 149) hx hb dX8_stepOverRun_142 (by decide) (fun c17 => ?_) (fun c17 => ?_)
          · refine lv_iconst (v := 4) hx hb dX8_stepOverRun_149 (by decide) ?_
            refine va_put (D := (dC, dI)) (ci := 9) (v := .int 4) (ty := .int) (C := RX8) (T := TX8) (N := 15) hx hb hts ii_X8_stepOverRun_X8 tyX8 tyX8_ok nmX8 hown hK hP (xD hN _ _ _ _ _ _) hS 1 (xw_is (r := 1) (by omega) (xc_fix (r := 1) (by omega))) rfl 4 (by decide) (hts _ mm_X8_stepOverRun_7) (fun _ hh => hh) rfl (by decide +kernel) rfl rfl (Nat.le_of_ble_eq_true rfl) dX8_stepOverRun_150 (fun H locs hP _ hS => ?_)
            have hP : va_P (dC, dI) vwCl (xw A C nb (up2 st5 1 4 4) sl6 so) H := by rw [← xset (r := 1) (k := 4) (v := 4) (xc_fix (r := 1) (by omega))]; exact hP
            obtain ⟨st58, est58⟩ : ∃ y, y = up2 st5 1 4 4 := ⟨_, rfl⟩
            have hG : XG [1, 2, 3, 4, 5, 6, 7, 8, 9, 10, 11, 12, 13, 14, 15] st st58 := by rw [est58]; exact hG.up (xz (r := 1) (k := 4) (by decide : xrg 1 4 = 0)) (xpn (c := 0) (by decide : xcl 1 4 = 0) (by decide))
            rw [← est58] at hP
            refine lv_goto (tgt := 174) hx hb dX8_stepOverRun_153 (by decide) ?_
            exact W.vret hx hb hr (fun t ht hW => ⟨⟨(st58, sl6, so), rfl, ⟨hG, hL, rfl, trivial⟩, xB.of ht hP⟩, hS.F ht⟩) hS.2.2 dX8_stepOverRun_174
          · refine lv_iconst (v := 0) hx hb dX8_stepOverRun_145 (by decide) ?_
            refine lv_goto (tgt := 150) hx hb dX8_stepOverRun_146 (by decide) ?_
            refine va_put (D := (dC, dI)) (ci := 9) (v := .int 0) (ty := .int) (C := RX8) (T := TX8) (N := 15) hx hb hts ii_X8_stepOverRun_X8 tyX8 tyX8_ok nmX8 hown hK hP (xD hN _ _ _ _ _ _) hS 1 (xw_is (r := 1) (by omega) (xc_fix (r := 1) (by omega))) rfl 4 (by decide) (hts _ mm_X8_stepOverRun_7) (fun _ hh => hh) rfl (by decide +kernel) rfl rfl (Nat.le_of_ble_eq_true rfl) dX8_stepOverRun_150 (fun H locs hP _ hS => ?_)
            have hP : va_P (dC, dI) vwCl (xw A C nb (up2 st5 1 4 0) sl6 so) H := by rw [← xset (r := 1) (k := 4) (v := 0) (xc_fix (r := 1) (by omega))]; exact hP
            obtain ⟨st59, est59⟩ : ∃ y, y = up2 st5 1 4 0 := ⟨_, rfl⟩
            have hG : XG [1, 2, 3, 4, 5, 6, 7, 8, 9, 10, 11, 12, 13, 14, 15] st st59 := by rw [est59]; exact hG.up (xz (r := 1) (k := 4) (by decide : xrg 1 4 = 0)) (xpn (c := 0) (by decide : xcl 1 4 = 0) (by decide))
            rw [← est59] at hP
            refine lv_goto (tgt := 174) hx hb dX8_stepOverRun_153 (by decide) ?_
            exact W.vret hx hb hr (fun t ht hW => ⟨⟨(st59, sl6, so), rfl, ⟨hG, hL, rfl, trivial⟩, xB.of ht hP⟩, hS.F ht⟩) hS.2.2 dX8_stepOverRun_174
