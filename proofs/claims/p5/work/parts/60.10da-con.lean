set_option maxHeartbeats 4000000 in
set_option maxRecDepth 100000 in
theorem s_J5_isLatin1_aae02 (l : Launch) (dC : Nat → ClassId) (dI : Nat → Nat → Nat) (ad : Nat → Nat) (E : EP) (hEE : EC ad E) (a v : Nat) (cB : ClassId) (nb : Nat) (f : Nat → Int32) (ml : Int32) (cn sz : Nat) (hne : a ≠ v) (hF : sb_Fit f) (hnb : nb = 16 ∨ nb = 34) (hcn : cn ≤ nb) : Met l yJ5_isLatin1_aae02 wsJ5_isLatin1_aae02 ({ frames := 0, cells := 0, slots := 0, locals := 0 }) (va_Pc [.ref a] (sPre E dC dI a v cB nb f ml (nI cn) sz)) (va_Qi (fun (r : Int32) (x : SU) => x = (v, cB, nb, f, ml, nI cn) ∧ (r = 1)) (sB dC dI a v sz) (sA a v sz)) 0 0 (sA a v sz) := by
  refine Met.ofW (cc := cJ5_isLatin1_aae02) (maxL := 1) (ret := (some .boolean)) (by decide) rfl ?_
  intro p e s m args below meth c s₁ B hml hv
  obtain ⟨rfl, hsz, hP, hK, hE⟩ := hv
  have hx := B.exec
  have hb := B.bytes
  have hr := B.returns
  have hts := atoms_spec (ws := wsJ5_isLatin1_aae02) B.pre
  have hown : s.vm.findClass RJ5 = some m.cls := findClass_of_methodNamed B.named
  subst hsz
  have hEv := hEE.1 _ _ _ hE
  have hS : va_S (sA a v s.heap.size) s.heap s.heap [] := va_S.rf
  have hv : v = v ∨ s.heap.size ≤ v := Or.inl rfl
  have hl := lv_entry ([.ref a]) (n := 1) (Nat.le_of_ble_eq_true rfl)
  rw [lg_entry_eq]
  generalize (lg_sl ([.ref a]) ++ List.replicate (1 - (lg_sl ([.ref a])).length) Slot.unset).toArray = ls at hl ⊢
  have hl : lv_has ls 1 [(0, .ref a)] := hl
  refine va_gets (v := .int 1) hx hb (EV.compact hEv) hS hown (hts _ mm_J5_isLatin1_aae02_1) (fun _ hh => hh) dJ5_isLatin1_aae02_0 ?_
  refine lv_if_eq (tgt := 17) hx hb dJ5_isLatin1_aae02_3 (by decide) (fun cc => absurd cc (by decide)) (fun _ => ?_)
  refine lv_aload_n hx hb dJ5_isLatin1_aae02_6 rfl (lv_at hl 0 rfl) ?_
  refine va_get (D := (dC, dI)) (ci := 0) (v := .int 0) (C := RJ4) (T := TJ4) (N := 4) hx hb hts ii_J5_isLatin1_aae02_J4 hown hK hP 0 rfl rfl 1 (by decide) (hts _ mm_J5_isLatin1_aae02_2) (fun _ hh => hh) rfl dJ5_isLatin1_aae02_7 ?_
  refine lv_if_ne (tgt := 17) hx hb dJ5_isLatin1_aae02_10 (by decide) (fun cc => absurd (by decide) cc) (fun _ => ?_)
  refine lv_iconst (v := 1) hx hb dJ5_isLatin1_aae02_13 (by decide) ?_
  refine lv_goto (tgt := 18) hx hb dJ5_isLatin1_aae02_14 (by decide) ?_
  exact W.zret (v := 1) hx hb hr rfl (fun t ht hW => ⟨⟨1, (v, cB, nb, f, ml, (nI cn)), rfl, ⟨rfl, rfl⟩, sB.of ht hW hP hK hne hv hF⟩, hS.F ht⟩) hS.2.2 dJ5_isLatin1_aae02_18
set_option maxHeartbeats 4000000 in
set_option maxRecDepth 100000 in
theorem s_J5_length_8abf5 (l : Launch) (dC : Nat → ClassId) (dI : Nat → Nat → Nat) (ad : Nat → Nat) (E : EP) (hEE : EC ad E) (a v : Nat) (cB : ClassId) (nb : Nat) (f : Nat → Int32) (ml : Int32) (cn sz : Nat) (hne : a ≠ v) (hF : sb_Fit f) (hnb : nb = 16 ∨ nb = 34) (hcn : cn ≤ nb) : Met l yJ5_length_8abf5 wsJ5_length_8abf5 ({ frames := 0, cells := 0, slots := 0, locals := 0 }) (va_Pc [.ref a] (sPre E dC dI a v cB nb f ml (nI cn) sz)) (va_Qi (fun (r : Int32) (x : SU) => x = (v, cB, nb, f, ml, nI cn) ∧ (∃ n : Nat, r = nI n ∧ n = cn)) (sB dC dI a v sz) (sA a v sz)) 0 0 (sA a v sz) := by
  refine Met.ofW (cc := cJ5_length_8abf5) (maxL := 1) (ret := (some .int)) (by decide) rfl ?_
  intro p e s m args below meth c s₁ B hml hv
  obtain ⟨rfl, hsz, hP, hK, hE⟩ := hv
  have hx := B.exec
  have hb := B.bytes
  have hr := B.returns
  have hts := atoms_spec (ws := wsJ5_length_8abf5) B.pre
  have hown : s.vm.findClass RJ5 = some m.cls := findClass_of_methodNamed B.named
  subst hsz
  have hEv := hEE.1 _ _ _ hE
  have hS : va_S (sA a v s.heap.size) s.heap s.heap [] := va_S.rf
  have hv : v = v ∨ s.heap.size ≤ v := Or.inl rfl
  have hl := lv_entry ([.ref a]) (n := 1) (Nat.le_of_ble_eq_true rfl)
  rw [lg_entry_eq]
  generalize (lg_sl ([.ref a]) ++ List.replicate (1 - (lg_sl ([.ref a])).length) Slot.unset).toArray = ls at hl ⊢
  have hl : lv_has ls 1 [(0, .ref a)] := hl
  refine lv_aload_n hx hb dJ5_length_8abf5_0 rfl (lv_at hl 0 rfl) ?_
  refine va_get (D := (dC, dI)) (ci := 0) (v := .int (nI cn)) (C := RJ4) (T := TJ4) (N := 4) hx hb hts ii_J5_length_8abf5_J4 hown hK hP 0 rfl rfl 3 (by decide) (hts _ mm_J5_length_8abf5_1) (fun _ hh => hh) rfl dJ5_length_8abf5_1 ?_
  exact W.iret (v := (nI cn)) hx hb hr (fun t ht hW => ⟨⟨(nI cn), (v, cB, nb, f, ml, (nI cn)), rfl, ⟨rfl, ⟨cn, rfl, by omega⟩⟩, sB.of ht hW hP hK hne hv hF⟩, hS.F ht⟩) hS.2.2 dJ5_length_8abf5_4
set_option maxHeartbeats 4000000 in
set_option maxRecDepth 100000 in
theorem s_J4_length_8abf5 (l : Launch) (dC : Nat → ClassId) (dI : Nat → Nat → Nat) (ad : Nat → Nat) (E : EP) (hEE : EC ad E) (a v : Nat) (cB : ClassId) (nb : Nat) (f : Nat → Int32) (ml : Int32) (cn sz : Nat) (hne : a ≠ v) (hF : sb_Fit f) (hnb : nb = 16 ∨ nb = 34) (hcn : cn ≤ nb) : Met l yJ4_length_8abf5 wsJ4_length_8abf5 ({ frames := 1, cells := 0, slots := 0, locals := 20 }) (va_Pc [.ref a] (sPre E dC dI a v cB nb f ml (nI cn) sz)) (va_Qi (fun (r : Int32) (x : SU) => x = (v, cB, nb, f, ml, nI cn) ∧ (∃ n : Nat, r = nI n ∧ n = cn)) (sB dC dI a v sz) (sA a v sz)) 0 0 (sA a v sz) := by
  refine Met.ofW (cc := cJ4_length_8abf5) (maxL := 1) (ret := (some .int)) (by decide) rfl ?_
  intro p e s m args below meth c s₁ B hml hv
  obtain ⟨rfl, hsz, hP, hK, hE⟩ := hv
  have hx := B.exec
  have hb := B.bytes
  have hr := B.returns
  have hts := atoms_spec (ws := wsJ4_length_8abf5) B.pre
  have hown : s.vm.findClass RJ4 = some m.cls := findClass_of_methodNamed B.named
  subst hsz
  have hEv := hEE.1 _ _ _ hE
  have hS : va_S (sA a v s.heap.size) s.heap s.heap [] := va_S.rf
  have hv : v = v ∨ s.heap.size ≤ v := Or.inl rfl
  have hl := lv_entry ([.ref a]) (n := 1) (Nat.le_of_ble_eq_true rfl)
  rw [lg_entry_eq]
  generalize (lg_sl ([.ref a]) ++ List.replicate (1 - (lg_sl ([.ref a])).length) Slot.unset).toArray = ls at hl ⊢
  have hl : lv_has ls 1 [(0, .ref a)] := hl
  refine lv_aload_n hx hb dJ4_length_8abf5_0 rfl (lv_at hl 0 rfl) ?_
  refine va_calli (va_runSU (hK.1 0 _ rfl).2 (As := []) (rest := []) ⟨hx, hb, hml, hown, hts⟩ (s_J5_length_8abf5 l dC dI ad E hEE a v cB nb f ml cn _ hne hF (by omega) (by omega) ) (va_cwSU 0 hts gJ4_length_8abf5_J5_length_8abf5_s343 rfl rfl rfl (by decide +kernel) ⟨Nat.le_of_ble_eq_true rfl, Nat.le_of_ble_eq_true rfl⟩) ⟨fun a U g mk q => ⟨q.1, sPre.blind hEE q.2⟩, va_recv hK hP (ci := 0) (q0 := 0) rfl rfl, fun U hU hW => ⟨rfl, sPre.of hEE hP hK hE hS (sA.le hv hS.1) hU hW⟩⟩ rfl rfl hl.1 rfl (lv_room (Nat.le_of_ble_eq_true rfl)) dJ4_length_8abf5_1 ⟨Nat.le_of_ble_eq_true rfl, Nat.le_of_ble_eq_true rfl⟩) hS (fun q _ h => sA.le hv hS.1 q h) (sA.le hv hS.1) (fun r1 x t H locs ht hvm hw hB _ _ hS => ?_)
  obtain ⟨hP, hK2, hne2, hv2, hF2⟩ := hB
  rw [ht] at hP
  obtain ⟨rfl, hw⟩ := hw
  clear hK2 hne2 hv2 hF2 ht hvm
  have hP : va_P (dC, dI) vwCl (sw a v cB nb f ml (nI cn)) _ := hP
  obtain ⟨n2, rfl, hf3⟩ := hw
  exact W.iret (v := (nI n2)) hx hb hr (fun t ht hW => ⟨⟨(nI n2), (v, cB, nb, f, ml, (nI cn)), rfl, ⟨rfl, ⟨n2, rfl, by omega⟩⟩, sB.of ht hW hP hK hne hv hF⟩, hS.F ht⟩) hS.2.2 dJ4_length_8abf5_4
set_option maxHeartbeats 4000000 in
set_option maxRecDepth 100000 in
theorem s_J0_coder_7d493 (l : Launch) (dC : Nat → ClassId) (dI : Nat → Nat → Nat) (ad : Nat → Nat) (E : EP) (hEE : EC ad E) (a v : Nat) (cB : ClassId) (nb : Nat) (f : Nat → Int32) (ml : Int32) (cn sz : Nat) (si : Nat) (hne : a ≠ v) (hF : sb_Fit f) (hnb : nb = 16 ∨ nb = 34) (hcn : cn ≤ nb) (hsi : si < 30) : Met l yJ0_coder_7d493 wsJ0_coder_7d493 ({ frames := 0, cells := 0, slots := 0, locals := 0 }) (va_Pc [.ref (ad (100 + si))] (sPre E dC dI a v cB nb f ml (nI cn) sz)) (va_Qi (fun (r : Int32) (x : SU) => x = (v, cB, nb, f, ml, nI cn) ∧ (r = 0)) (sB dC dI a v sz) (sA a v sz)) 0 0 (sA a v sz) := by
  refine Met.ofW (cc := cJ0_coder_7d493) (maxL := 1) (ret := (some .byte)) (by decide) rfl ?_
  intro p e s m args below meth c s₁ B hml hv
  obtain ⟨rfl, hsz, hP, hK, hE⟩ := hv
  have hx := B.exec
  have hb := B.bytes
  have hr := B.returns
  have hts := atoms_spec (ws := wsJ0_coder_7d493) B.pre
  have hown : s.vm.findClass RJ0 = some m.cls := findClass_of_methodNamed B.named
  subst hsz
  have hEv := hEE.1 _ _ _ hE
  have hS : va_S (sA a v s.heap.size) s.heap s.heap [] := va_S.rf
  have hv : v = v ∨ s.heap.size ≤ v := Or.inl rfl
  have hl := lv_entry ([.ref (ad (100 + si))]) (n := 1) (Nat.le_of_ble_eq_true rfl)
  rw [lg_entry_eq]
  generalize (lg_sl ([.ref (ad (100 + si))]) ++ List.replicate (1 - (lg_sl ([.ref (ad (100 + si))])).length) Slot.unset).toArray = ls at hl ⊢
  have hl : lv_has ls 1 [(0, .ref (ad (100 + si)))] := hl
  refine va_gets (v := .int 1) hx hb (EV.compact hEv) hS hown (hts _ mm_J0_coder_7d493_1) (fun _ hh => hh) dJ0_coder_7d493_0 ?_
  refine lv_if_eq (tgt := 13) hx hb dJ0_coder_7d493_3 (by decide) (fun cc => absurd cc (by decide)) (fun _ => ?_)
  refine lv_aload_n hx hb dJ0_coder_7d493_6 rfl (lv_at hl 0 rfl) ?_
  refine vk_getf (v := .int 0) hx hb (hEv.sv.2.1 si (by omega)).2.1 hS hown (hts _ mm_J0_coder_7d493_2) (fun _ hh => hh) dJ0_coder_7d493_7 ?_
  refine lv_goto (tgt := 14) hx hb dJ0_coder_7d493_10 (by decide) ?_
  exact W.zret (v := 0) hx hb hr rfl (fun t ht hW => ⟨⟨0, (v, cB, nb, f, ml, (nI cn)), rfl, ⟨rfl, rfl⟩, sB.of ht hW hP hK hne hv hF⟩, hS.F ht⟩) hS.2.2 dJ0_coder_7d493_14
set_option maxHeartbeats 4000000 in
set_option maxRecDepth 100000 in
theorem s_J0_length_8abf5 (l : Launch) (dC : Nat → ClassId) (dI : Nat → Nat → Nat) (ad : Nat → Nat) (E : EP) (hEE : EC ad E) (a v : Nat) (cB : ClassId) (nb : Nat) (f : Nat → Int32) (ml : Int32) (cn sz : Nat) (si : Nat) (hne : a ≠ v) (hF : sb_Fit f) (hnb : nb = 16 ∨ nb = 34) (hcn : cn ≤ nb) (hsi : si < 30) : Met l yJ0_length_8abf5 wsJ0_length_8abf5 ({ frames := 1, cells := 0, slots := 0, locals := 20 }) (va_Pc [.ref (ad (100 + si))] (sPre E dC dI a v cB nb f ml (nI cn) sz)) (va_Qi (fun (r : Int32) (x : SU) => x = (v, cB, nb, f, ml, nI cn) ∧ (∃ n : Nat, r = nI n ∧ n = sv_len.getD si 0 ∧ n < 13)) (sB dC dI a v sz) (sA a v sz)) 0 0 (sA a v sz) := by
  refine Met.ofW (cc := cJ0_length_8abf5) (maxL := 1) (ret := (some .int)) (by decide) rfl ?_
  intro p e s m args below meth c s₁ B hml hv
  obtain ⟨rfl, hsz, hP, hK, hE⟩ := hv
  have hx := B.exec
  have hb := B.bytes
  have hr := B.returns
  have hts := atoms_spec (ws := wsJ0_length_8abf5) B.pre
  have hown : s.vm.findClass RJ0 = some m.cls := findClass_of_methodNamed B.named
  subst hsz
  have hEv := hEE.1 _ _ _ hE
  have hS : va_S (sA a v s.heap.size) s.heap s.heap [] := va_S.rf
  have hv : v = v ∨ s.heap.size ≤ v := Or.inl rfl
  have hl := lv_entry ([.ref (ad (100 + si))]) (n := 1) (Nat.le_of_ble_eq_true rfl)
  rw [lg_entry_eq]
  generalize (lg_sl ([.ref (ad (100 + si))]) ++ List.replicate (1 - (lg_sl ([.ref (ad (100 + si))])).length) Slot.unset).toArray = ls at hl ⊢
  have hl : lv_has ls 1 [(0, .ref (ad (100 + si)))] := hl
  refine lv_aload_n hx hb dJ0_length_8abf5_0 rfl (lv_at hl 0 rfl) ?_
  refine vk_getf (v := .ref (ad (200 + si))) hx hb (hEv.sv.2.1 si (by omega)).2.2.1 hS hown (hts _ mm_J0_length_8abf5_1) (fun _ hh => hh) dJ0_length_8abf5_1 ?_
  refine va_tlen (v := nI (sv_len.getD si 0)) hx hb (hEv.sv.2.1 si (by omega)).2.2.2 hS rfl dJ0_length_8abf5_4 ?_
  have hql1 := sv_lt si
  refine lv_aload_n hx hb dJ0_length_8abf5_5 rfl (lv_at hl 0 rfl) ?_
  refine va_calli (va_runV (As := []) (rest := [.int (nI (sv_len.getD si 0))]) ⟨hx, hb, hml, hown, hts⟩ (s_J0_coder_7d493 l dC dI ad E hEE a v cB nb f ml cn _ si hne hF (by omega) (by omega) (by omega)) (cwV 0 hts gJ0_length_8abf5_J0_coder_7d493 rfl rfl rfl (by decide +kernel) ⟨Nat.le_of_ble_eq_true rfl, Nat.le_of_ble_eq_true rfl⟩) ⟨fun a U g mk q => ⟨q.1, sPre.blind hEE q.2⟩, SV.recv hEv.sv hS (i := si) (by omega), fun U hU hW => ⟨rfl, sPre.of hEE hP hK hE hS (sA.le hv hS.1) hU hW⟩⟩ rfl rfl hl.1 rfl (lv_room (Nat.le_of_ble_eq_true rfl)) dJ0_length_8abf5_6 ⟨Nat.le_of_ble_eq_true rfl, Nat.le_of_ble_eq_true rfl⟩) hS (fun q _ h => sA.le hv hS.1 q h) (sA.le hv hS.1) (fun r2 x t H locs ht hvm hw hB _ _ hS => ?_)
  obtain ⟨hP, hK2, hne2, hv2, hF2⟩ := hB
  rw [ht] at hP
  obtain ⟨rfl, hw⟩ := hw
  clear hK2 hne2 hv2 hF2 ht hvm
  have hP : va_P (dC, dI) vwCl (sw a v cB nb f ml (nI cn)) _ := hP
  obtain rfl := hw
  refine lv_ishr hx hb dJ0_length_8abf5_9 ?_
  refine zz_top (v := (nI (sv_len.getD si 0))) (sb_shr0 _) ?_
  exact W.iret (v := (nI (sv_len.getD si 0))) hx hb hr (fun t ht hW => ⟨⟨(nI (sv_len.getD si 0)), (v, cB, nb, f, ml, (nI cn)), rfl, ⟨rfl, ⟨_, rfl, rfl, by omega⟩⟩, sB.of ht hW hP hK hne hv hF⟩, hS.F ht⟩) hS.2.2 dJ0_length_8abf5_10
set_option maxHeartbeats 4000000 in
set_option maxRecDepth 100000 in
theorem s_checkIndexN (l : Launch) (dC : Nat → ClassId) (dI : Nat → Nat → Nat) (ad : Nat → Nat) (E : EP) (hEE : EC ad E) (a v : Nat) (cB : ClassId) (nb : Nat) (f : Nat → Int32) (ml : Int32) (cn sz : Nat) (va : Nat) (vb : Nat) (hne : a ≠ v) (hF : sb_Fit f) (hnb : nb = 16 ∨ nb = 34) (hcn : cn ≤ nb) (hva : va < 35) (hvb : vb < 35) (hab : va < vb) : Met l yJ3_checkIndex_8e157 wsJ3_checkIndex_8e157 ({ frames := 0, cells := 0, slots := 0, locals := 0 }) (va_Pc [.int (nI va), .int (nI vb), .null] (sPre E dC dI a v cB nb f ml (nI cn) sz)) (va_Qi (fun (r : Int32) (x : SU) => x = (v, cB, nb, f, ml, nI cn) ∧ (True)) (sB dC dI a v sz) (sA a v sz)) 0 0 (sA a v sz) := by
  refine Met.ofW (cc := cJ3_checkIndex_8e157) (maxL := 3) (ret := (some .int)) (by decide) rfl ?_
  intro p e s m args below meth c s₁ B hml hv
  obtain ⟨rfl, hsz, hP, hK, hE⟩ := hv
  have hx := B.exec
  have hb := B.bytes
  have hr := B.returns
  have hts := atoms_spec (ws := wsJ3_checkIndex_8e157) B.pre
  have hown : s.vm.findClass RJ3 = some m.cls := findClass_of_methodNamed B.named
  subst hsz
  have hEv := hEE.1 _ _ _ hE
  have hS : va_S (sA a v s.heap.size) s.heap s.heap [] := va_S.rf
  have hv : v = v ∨ s.heap.size ≤ v := Or.inl rfl
  have hl := lv_entry ([.int (nI va), .int (nI vb), .null]) (n := 3) (Nat.le_of_ble_eq_true rfl)
  rw [lg_entry_eq]
  generalize (lg_sl ([.int (nI va), .int (nI vb), .null]) ++ List.replicate (3 - (lg_sl ([.int (nI va), .int (nI vb), .null])).length) Slot.unset).toArray = ls at hl ⊢
  have hl : lv_has ls 3 [(0, .int (nI va)), (1, .int (nI vb)), (2, .null)] := hl
  refine lv_iload_n hx hb dJ3_checkIndex_8e157_0 rfl (lv_at hl 0 rfl) ?_
  refine lv_if_lt (tgt := 9) hx hb dJ3_checkIndex_8e157_1 (by decide) (fun cc => absurd ((nI_ltI (a := va) (b := 0) (by omega) (by omega)).mp cc) (by omega)) (fun _ => ?_)
  refine lv_iload_n hx hb dJ3_checkIndex_8e157_4 rfl (lv_at hl 0 rfl) ?_
  refine lv_iload_n hx hb dJ3_checkIndex_8e157_5 rfl (lv_at hl 1 rfl) ?_
  refine lv_icmp_lt (tgt := 16) hx hb dJ3_checkIndex_8e157_6 (by decide) (fun c2 => ?_) (fun c2 => ?_)
  · have c2 : va < vb := (nI_ltI (a := va) (b := vb) (by omega) (by omega)).mp c2
    refine lv_iload_n hx hb dJ3_checkIndex_8e157_16 rfl (lv_at hl 0 rfl) ?_
    exact W.iret (v := (nI va)) hx hb hr (fun t ht hW => ⟨⟨(nI va), (v, cB, nb, f, ml, (nI cn)), rfl, ⟨rfl, trivial⟩, sB.of ht hW hP hK hne hv hF⟩, hS.F ht⟩) hS.2.2 dJ3_checkIndex_8e157_17
  · have c2 : ¬ va < vb := fun hh => c2 ((nI_ltI (a := va) (b := vb) (by omega) (by omega)).mpr hh)
    exact absurd hab (by omega)
set_option maxHeartbeats 4000000 in
set_option maxRecDepth 100000 in
theorem s_checkIndexR (l : Launch) (dC : Nat → ClassId) (dI : Nat → Nat → Nat) (ad : Nat → Nat) (E : EP) (hEE : EC ad E) (a v : Nat) (cB : ClassId) (nb : Nat) (f : Nat → Int32) (ml : Int32) (cn sz : Nat) (va : Nat) (vb : Nat) (vf : Nat) (hne : a ≠ v) (hF : sb_Fit f) (hnb : nb = 16 ∨ nb = 34) (hcn : cn ≤ nb) (hva : va < 35) (hvb : vb < 35) (hab : va < vb) : Met l yJ3_checkIndex_8e157 wsJ3_checkIndex_8e157 ({ frames := 0, cells := 0, slots := 0, locals := 0 }) (va_Pc [.int (nI va), .int (nI vb), .ref vf] (sPre E dC dI a v cB nb f ml (nI cn) sz)) (va_Qi (fun (r : Int32) (x : SU) => x = (v, cB, nb, f, ml, nI cn) ∧ (True)) (sB dC dI a v sz) (sA a v sz)) 0 0 (sA a v sz) := by
  refine Met.ofW (cc := cJ3_checkIndex_8e157) (maxL := 3) (ret := (some .int)) (by decide) rfl ?_
  intro p e s m args below meth c s₁ B hml hv
  obtain ⟨rfl, hsz, hP, hK, hE⟩ := hv
  have hx := B.exec
  have hb := B.bytes
  have hr := B.returns
  have hts := atoms_spec (ws := wsJ3_checkIndex_8e157) B.pre
  have hown : s.vm.findClass RJ3 = some m.cls := findClass_of_methodNamed B.named
  subst hsz
  have hEv := hEE.1 _ _ _ hE
  have hS : va_S (sA a v s.heap.size) s.heap s.heap [] := va_S.rf
  have hv : v = v ∨ s.heap.size ≤ v := Or.inl rfl
  have hl := lv_entry ([.int (nI va), .int (nI vb), .ref vf]) (n := 3) (Nat.le_of_ble_eq_true rfl)
  rw [lg_entry_eq]
  generalize (lg_sl ([.int (nI va), .int (nI vb), .ref vf]) ++ List.replicate (3 - (lg_sl ([.int (nI va), .int (nI vb), .ref vf])).length) Slot.unset).toArray = ls at hl ⊢
  have hl : lv_has ls 3 [(0, .int (nI va)), (1, .int (nI vb)), (2, .ref vf)] := hl
  refine lv_iload_n hx hb dJ3_checkIndex_8e157_0 rfl (lv_at hl 0 rfl) ?_
  refine lv_if_lt (tgt := 9) hx hb dJ3_checkIndex_8e157_1 (by decide) (fun cc => absurd ((nI_ltI (a := va) (b := 0) (by omega) (by omega)).mp cc) (by omega)) (fun _ => ?_)
  refine lv_iload_n hx hb dJ3_checkIndex_8e157_4 rfl (lv_at hl 0 rfl) ?_
  refine lv_iload_n hx hb dJ3_checkIndex_8e157_5 rfl (lv_at hl 1 rfl) ?_
  refine lv_icmp_lt (tgt := 16) hx hb dJ3_checkIndex_8e157_6 (by decide) (fun c2 => ?_) (fun c2 => ?_)
  · have c2 : va < vb := (nI_ltI (a := va) (b := vb) (by omega) (by omega)).mp c2
    refine lv_iload_n hx hb dJ3_checkIndex_8e157_16 rfl (lv_at hl 0 rfl) ?_
    exact W.iret (v := (nI va)) hx hb hr (fun t ht hW => ⟨⟨(nI va), (v, cB, nb, f, ml, (nI cn)), rfl, ⟨rfl, trivial⟩, sB.of ht hW hP hK hne hv hF⟩, hS.F ht⟩) hS.2.2 dJ3_checkIndex_8e157_17
  · have c2 : ¬ va < vb := fun hh => c2 ((nI_ltI (a := va) (b := vb) (by omega) (by omega)).mpr hh)
    exact absurd hab (by omega)
set_option maxHeartbeats 4000000 in
set_option maxRecDepth 100000 in
theorem s_J0_checkIndex_df160 (l : Launch) (dC : Nat → ClassId) (dI : Nat → Nat → Nat) (ad : Nat → Nat) (E : EP) (hEE : EC ad E) (a v : Nat) (cB : ClassId) (nb : Nat) (f : Nat → Int32) (ml : Int32) (cn sz : Nat) (va : Nat) (vb : Nat) (hne : a ≠ v) (hF : sb_Fit f) (hnb : nb = 16 ∨ nb = 34) (hcn : cn ≤ nb) (hva : va < 35) (hvb : vb < 35) (hab : va < vb) : Met l yJ0_checkIndex_df160 wsJ0_checkIndex_df160 ({ frames := 1, cells := 0, slots := 0, locals := 22 }) (va_Pc [.int (nI va), .int (nI vb)] (sPre E dC dI a v cB nb f ml (nI cn) sz)) (va_Qv (fun (x : SU) => x = (v, cB, nb, f, ml, nI cn) ∧ (True)) (sB dC dI a v sz) (sA a v sz)) 0 0 (sA a v sz) := by
  refine Met.ofW (cc := cJ0_checkIndex_df160) (maxL := 2) (ret := none) (by decide) rfl ?_
  intro p e s m args below meth c s₁ B hml hv
  obtain ⟨rfl, hsz, hP, hK, hE⟩ := hv
  have hx := B.exec
  have hb := B.bytes
  have hr := B.returns
  have hts := atoms_spec (ws := wsJ0_checkIndex_df160) B.pre
  have hown : s.vm.findClass RJ0 = some m.cls := findClass_of_methodNamed B.named
  subst hsz
  have hEv := hEE.1 _ _ _ hE
  have hS : va_S (sA a v s.heap.size) s.heap s.heap [] := va_S.rf
  have hv : v = v ∨ s.heap.size ≤ v := Or.inl rfl
  have hl := lv_entry ([.int (nI va), .int (nI vb)]) (n := 2) (Nat.le_of_ble_eq_true rfl)
  rw [lg_entry_eq]
  generalize (lg_sl ([.int (nI va), .int (nI vb)]) ++ List.replicate (2 - (lg_sl ([.int (nI va), .int (nI vb)])).length) Slot.unset).toArray = ls at hl ⊢
  have hl : lv_has ls 2 [(0, .int (nI va)), (1, .int (nI vb))] := hl
  refine lv_iload_n hx hb dJ0_checkIndex_df160_0 rfl (lv_at hl 0 rfl) ?_
  refine lv_iload_n hx hb dJ0_checkIndex_df160_1 rfl (lv_at hl 1 rfl) ?_
  rcases hEv.sv.2.2.2.2 with et1 | ⟨t1, et1⟩
  · refine va_gets (v := .null) hx hb et1 hS hown (hts _ mm_J0_checkIndex_df160_1) (fun _ hh => hh) dJ0_checkIndex_df160_2 ?_
    refine va_calli (va_runS (As := [.int (nI va), .int (nI vb), .null]) (rest := []) ⟨hx, hb, hml, hown, hts⟩ (s_checkIndexN l dC dI ad E hEE a v cB nb f ml cn _ va vb hne hF (by omega) (by omega) (by omega) (by omega) (by omega)) (va_cwS 3 hts gJ0_checkIndex_df160_J3_checkIndex_8e157 rfl rfl rfl (by decide +kernel) ⟨Nat.le_of_ble_eq_true rfl, Nat.le_of_ble_eq_true rfl⟩) ⟨fun a U g mk q => ⟨q.1, sPre.blind hEE q.2⟩, fun U hU hW => ⟨rfl, sPre.of hEE hP hK hE hS (sA.le hv hS.1) hU hW⟩⟩ rfl rfl hl.1 rfl (lv_room (Nat.le_of_ble_eq_true rfl)) dJ0_checkIndex_df160_5 ⟨Nat.le_of_ble_eq_true rfl, Nat.le_of_ble_eq_true rfl⟩) hS (fun q _ h => sA.le hv hS.1 q h) (sA.le hv hS.1) (fun r2 x t H locs ht hvm hw hB _ _ hS => ?_)
    obtain ⟨hP, hK2, hne2, hv2, hF2⟩ := hB
    rw [ht] at hP
    obtain ⟨rfl, hw⟩ := hw
    clear hK2 hne2 hv2 hF2 ht hvm
    have hP : va_P (dC, dI) vwCl (sw a v cB nb f ml (nI cn)) _ := hP
    clear hw
    refine lv_pop hx hb dJ0_checkIndex_df160_8 rfl ?_
    exact W.vret hx hb hr (fun t ht hW => ⟨⟨(v, cB, nb, f, ml, (nI cn)), rfl, ⟨rfl, trivial⟩, sB.of ht hW hP hK hne hv hF⟩, hS.F ht⟩) hS.2.2 dJ0_checkIndex_df160_9
  · refine va_gets (v := .ref t1) hx hb et1 hS hown (hts _ mm_J0_checkIndex_df160_1) (fun _ hh => hh) dJ0_checkIndex_df160_2 ?_
    refine va_calli (va_runS (As := [.int (nI va), .int (nI vb), .ref t1]) (rest := []) ⟨hx, hb, hml, hown, hts⟩ (s_checkIndexR l dC dI ad E hEE a v cB nb f ml cn _ va vb t1 hne hF (by omega) (by omega) (by omega) (by omega) (by omega)) (va_cwS 3 hts gJ0_checkIndex_df160_J3_checkIndex_8e157 rfl rfl rfl (by decide +kernel) ⟨Nat.le_of_ble_eq_true rfl, Nat.le_of_ble_eq_true rfl⟩) ⟨fun a U g mk q => ⟨q.1, sPre.blind hEE q.2⟩, fun U hU hW => ⟨rfl, sPre.of hEE hP hK hE hS (sA.le hv hS.1) hU hW⟩⟩ rfl rfl hl.1 rfl (lv_room (Nat.le_of_ble_eq_true rfl)) dJ0_checkIndex_df160_5 ⟨Nat.le_of_ble_eq_true rfl, Nat.le_of_ble_eq_true rfl⟩) hS (fun q _ h => sA.le hv hS.1 q h) (sA.le hv hS.1) (fun r3 x t H locs ht hvm hw hB _ _ hS => ?_)
    obtain ⟨hP, hK2, hne2, hv2, hF2⟩ := hB
    rw [ht] at hP
    obtain ⟨rfl, hw⟩ := hw
    clear hK2 hne2 hv2 hF2 ht hvm
    have hP : va_P (dC, dI) vwCl (sw a v cB nb f ml (nI cn)) _ := hP
    clear hw
    refine lv_pop hx hb dJ0_checkIndex_df160_8 rfl ?_
    exact W.vret hx hb hr (fun t ht hW => ⟨⟨(v, cB, nb, f, ml, (nI cn)), rfl, ⟨rfl, trivial⟩, sB.of ht hW hP hK hne hv hF⟩, hS.F ht⟩) hS.2.2 dJ0_checkIndex_df160_9
set_option maxHeartbeats 4000000 in
set_option maxRecDepth 100000 in
theorem s_J5_charAt_5068e (l : Launch) (dC : Nat → ClassId) (dI : Nat → Nat → Nat) (ad : Nat → Nat) (E : EP) (hEE : EC ad E) (a v : Nat) (cB : ClassId) (nb : Nat) (f : Nat → Int32) (ml : Int32) (cn sz : Nat) (va : Nat) (hne : a ≠ v) (hF : sb_Fit f) (hnb : nb = 16 ∨ nb = 34) (hcn : cn ≤ nb) (hva : va < 35) (hvc : va < cn) : Met l yJ5_charAt_5068e wsJ5_charAt_5068e ({ frames := 2, cells := 0, slots := 0, locals := 43 }) (va_Pc [.ref a, .int (nI va)] (sPre E dC dI a v cB nb f ml (nI cn) sz)) (va_Qi (fun (r : Int32) (x : SU) => x = (v, cB, nb, f, ml, nI cn) ∧ (narrow .char (.int r) = .int r)) (sB dC dI a v sz) (sA a v sz)) 0 0 (sA a v sz) := by
  refine Met.ofW (cc := cJ5_charAt_5068e) (maxL := 5) (ret := (some .char)) (by decide) rfl ?_
  intro p e s m args below meth c s₁ B hml hv
  obtain ⟨rfl, hsz, hP, hK, hE⟩ := hv
  have hx := B.exec
  have hb := B.bytes
  have hr := B.returns
  have hts := atoms_spec (ws := wsJ5_charAt_5068e) B.pre
  have hown : s.vm.findClass RJ5 = some m.cls := findClass_of_methodNamed B.named
  subst hsz
  have hEv := hEE.1 _ _ _ hE
  have hS : va_S (sA a v s.heap.size) s.heap s.heap [] := va_S.rf
  have hv : v = v ∨ s.heap.size ≤ v := Or.inl rfl
  have hl := lv_entry ([.ref a, .int (nI va)]) (n := 5) (Nat.le_of_ble_eq_true rfl)
  rw [lg_entry_eq]
  generalize (lg_sl ([.ref a, .int (nI va)]) ++ List.replicate (5 - (lg_sl ([.ref a, .int (nI va)])).length) Slot.unset).toArray = ls at hl ⊢
  have hl : lv_has ls 5 [(0, .ref a), (1, .int (nI va))] := hl
  refine lv_aload_n hx hb dJ5_charAt_5068e_0 rfl (lv_at hl 0 rfl) ?_
  refine va_get (D := (dC, dI)) (ci := 0) (v := .int 0) (C := RJ4) (T := TJ4) (N := 4) hx hb hts ii_J5_charAt_5068e_J4 hown hK hP 0 rfl rfl 1 (by decide) (hts _ mm_J5_charAt_5068e_1) (fun _ hh => hh) rfl dJ5_charAt_5068e_1 ?_
  refine lv_istore_n (lv' := [(2, .int 0), (0, .ref a), (1, .int (nI va))]) hx hb dJ5_charAt_5068e_4 rfl hl (by decide) rfl (fun ls hl => ?_)
  refine lv_aload_n hx hb dJ5_charAt_5068e_5 rfl (lv_at hl 1 rfl) ?_
  refine va_get (D := (dC, dI)) (ci := 0) (v := .ref v) (C := RJ4) (T := TJ4) (N := 4) hx hb hts ii_J5_charAt_5068e_J4 hown hK hP 0 rfl rfl 0 (by decide) (hts _ mm_J5_charAt_5068e_2) (fun _ hh => hh) rfl dJ5_charAt_5068e_6 ?_
  refine lv_astore_n (lv' := [(3, .ref v), (2, .int 0), (0, .ref a), (1, .int (nI va))]) hx hb dJ5_charAt_5068e_9 rfl hl (by decide) rfl (fun ls hl => ?_)
  refine lv_aload_n hx hb dJ5_charAt_5068e_10 rfl (lv_at hl 2 rfl) ?_
  refine va_get (D := (dC, dI)) (ci := 0) (v := .int (nI cn)) (C := RJ4) (T := TJ4) (N := 4) hx hb hts ii_J5_charAt_5068e_J4 hown hK hP 0 rfl rfl 3 (by decide) (hts _ mm_J5_charAt_5068e_3) (fun _ hh => hh) rfl dJ5_charAt_5068e_11 ?_
  refine lv_aload_n hx hb dJ5_charAt_5068e_14 rfl (lv_at hl 0 rfl) ?_
  refine va_alen (v := nI nb) hx hb hK hP 1 0 rfl rfl rfl dJ5_charAt_5068e_15 ?_
  refine lv_iload_n hx hb dJ5_charAt_5068e_16 rfl (lv_at hl 1 rfl) ?_
  refine lv_ishr hx hb dJ5_charAt_5068e_17 ?_
  refine zz_top (v := (nI nb)) (sb_shr0 _) ?_
  refine va_mmin hx hb (by rw [hml]; exact hl.1.symm) hown (hts _ mm_J5_charAt_5068e_4) (hts _ mm_J5_charAt_5068e_5) (hts _ mm_J5_charAt_5068e_6) (hts _ mm_J5_charAt_5068e_7) (Nat.le_of_ble_eq_true rfl) (Nat.le_of_ble_eq_true rfl) (Nat.le_of_ble_eq_true rfl) (Nat.le_of_ble_eq_true rfl) dJ5_charAt_5068e_18 ?_
  refine zz_top (v := nI cn) (zz_min (x := cn) (y := nb) (by omega) (by omega)) ?_
  refine lv_istore (lv' := [(4, .int (nI cn)), (3, .ref v), (2, .int 0), (0, .ref a), (1, .int (nI va))]) hx hb dJ5_charAt_5068e_21 hl (by decide) rfl (fun ls hl => ?_)
  refine lv_iload_n hx hb dJ5_charAt_5068e_23 rfl (lv_at hl 4 rfl) ?_
  refine lv_iload hx hb dJ5_charAt_5068e_24 (lv_at hl 0 rfl) ?_
  refine va_callv (va_runS (As := [.int (nI va), .int (nI cn)]) (rest := []) ⟨hx, hb, hml, hown, hts⟩ (s_J0_checkIndex_df160 l dC dI ad E hEE a v cB nb f ml cn _ va cn hne hF (by omega) (by omega) (by omega) (by omega) (by omega)) (va_cwS 2 hts gJ5_charAt_5068e_J0_checkIndex_df160 rfl rfl rfl (by decide +kernel) ⟨Nat.le_of_ble_eq_true rfl, Nat.le_of_ble_eq_true rfl⟩) ⟨fun a U g mk q => ⟨q.1, sPre.blind hEE q.2⟩, fun U hU hW => ⟨rfl, sPre.of hEE hP hK hE hS (sA.le hv hS.1) hU hW⟩⟩ rfl rfl hl.1 rfl (lv_room (Nat.le_of_ble_eq_true rfl)) dJ5_charAt_5068e_26 ⟨Nat.le_of_ble_eq_true rfl, Nat.le_of_ble_eq_true rfl⟩) hS (fun q _ h => sA.le hv hS.1 q h) (sA.le hv hS.1) (fun x t H locs ht hvm hw hB _ _ hS => ?_)
  obtain ⟨hP, hK2, hne2, hv2, hF2⟩ := hB
  rw [ht] at hP
  obtain ⟨rfl, hw⟩ := hw
  clear hK2 hne2 hv2 hF2 ht hvm
  have hP : va_P (dC, dI) vwCl (sw a v cB nb f ml (nI cn)) _ := hP
  clear hw
  refine lv_iload_n hx hb dJ5_charAt_5068e_29 rfl (lv_at hl 2 rfl) ?_
  refine lv_if_ne (tgt := 42) hx hb dJ5_charAt_5068e_30 (by decide) (fun cc => absurd (by decide) cc) (fun _ => ?_)
  refine lv_aload_n hx hb dJ5_charAt_5068e_33 rfl (lv_at hl 1 rfl) ?_
  refine lv_iload_n hx hb dJ5_charAt_5068e_34 rfl (lv_at hl 4 rfl) ?_
  refine va_bald hx hb hK hP 1 0 rfl rfl (i := (nI va)) (vp_in_nI (by omega) (by omega)) dJ5_charAt_5068e_35 ?_
  refine lv_topi (fun z2 ez2 => ?_)
  clear ez2
  refine lv_sipush (v := 255) hx hb dJ5_charAt_5068e_36 (by decide) ?_
  refine lv_iand hx hb dJ5_charAt_5068e_39 ?_
  refine lv_topi (fun z3 ez3 => ?_)
  clear ez3
  refine lv_i2c hx hb dJ5_charAt_5068e_40 rfl ?_
  refine lv_topi (fun z4 ez4 => ?_)
  exact W.zret (v := z4) hx hb hr (by rw [ez4]; exact pk_nc _) (fun t ht hW => ⟨⟨z4, (v, cB, nb, f, ml, (nI cn)), rfl, ⟨rfl, by rw [ez4]; exact pk_nc _⟩, sB.of ht hW hP hK hne hv hF⟩, hS.F ht⟩) hS.2.2 dJ5_charAt_5068e_41
set_option maxHeartbeats 4000000 in
set_option maxRecDepth 100000 in
theorem s_J4_charAt_5068e (l : Launch) (dC : Nat → ClassId) (dI : Nat → Nat → Nat) (ad : Nat → Nat) (E : EP) (hEE : EC ad E) (a v : Nat) (cB : ClassId) (nb : Nat) (f : Nat → Int32) (ml : Int32) (cn sz : Nat) (va : Nat) (hne : a ≠ v) (hF : sb_Fit f) (hnb : nb = 16 ∨ nb = 34) (hcn : cn ≤ nb) (hva : va < 35) (hvc : va < cn) : Met l yJ4_charAt_5068e wsJ4_charAt_5068e ({ frames := 3, cells := 0, slots := 0, locals := 67 }) (va_Pc [.ref a, .int (nI va)] (sPre E dC dI a v cB nb f ml (nI cn) sz)) (va_Qi (fun (r : Int32) (x : SU) => x = (v, cB, nb, f, ml, nI cn) ∧ (narrow .char (.int r) = .int r)) (sB dC dI a v sz) (sA a v sz)) 0 0 (sA a v sz) := by
  refine Met.ofW (cc := cJ4_charAt_5068e) (maxL := 2) (ret := (some .char)) (by decide) rfl ?_
  intro p e s m args below meth c s₁ B hml hv
  obtain ⟨rfl, hsz, hP, hK, hE⟩ := hv
  have hx := B.exec
  have hb := B.bytes
  have hr := B.returns
  have hts := atoms_spec (ws := wsJ4_charAt_5068e) B.pre
  have hown : s.vm.findClass RJ4 = some m.cls := findClass_of_methodNamed B.named
  subst hsz
  have hEv := hEE.1 _ _ _ hE
  have hS : va_S (sA a v s.heap.size) s.heap s.heap [] := va_S.rf
  have hv : v = v ∨ s.heap.size ≤ v := Or.inl rfl
  have hl := lv_entry ([.ref a, .int (nI va)]) (n := 2) (Nat.le_of_ble_eq_true rfl)
  rw [lg_entry_eq]
  generalize (lg_sl ([.ref a, .int (nI va)]) ++ List.replicate (2 - (lg_sl ([.ref a, .int (nI va)])).length) Slot.unset).toArray = ls at hl ⊢
  have hl : lv_has ls 2 [(0, .ref a), (1, .int (nI va))] := hl
  refine lv_aload_n hx hb dJ4_charAt_5068e_0 rfl (lv_at hl 0 rfl) ?_
  refine lv_iload_n hx hb dJ4_charAt_5068e_1 rfl (lv_at hl 1 rfl) ?_
  refine va_calli (va_runSU (hK.1 0 _ rfl).2 (As := [.int (nI va)]) (rest := []) ⟨hx, hb, hml, hown, hts⟩ (s_J5_charAt_5068e l dC dI ad E hEE a v cB nb f ml cn _ va hne hF (by omega) (by omega) (by omega) (by omega)) (va_cwSU 1 hts gJ4_charAt_5068e_J5_charAt_5068e_s329 rfl rfl rfl (by decide +kernel) ⟨Nat.le_of_ble_eq_true rfl, Nat.le_of_ble_eq_true rfl⟩) ⟨fun a U g mk q => ⟨q.1, sPre.blind hEE q.2⟩, va_recv hK hP (ci := 0) (q0 := 0) rfl rfl, fun U hU hW => ⟨rfl, sPre.of hEE hP hK hE hS (sA.le hv hS.1) hU hW⟩⟩ rfl rfl hl.1 rfl (lv_room (Nat.le_of_ble_eq_true rfl)) dJ4_charAt_5068e_2 ⟨Nat.le_of_ble_eq_true rfl, Nat.le_of_ble_eq_true rfl⟩) hS (fun q _ h => sA.le hv hS.1 q h) (sA.le hv hS.1) (fun r1 x t H locs ht hvm hw hB _ _ hS => ?_)
  obtain ⟨hP, hK2, hne2, hv2, hF2⟩ := hB
  rw [ht] at hP
  obtain ⟨rfl, hw⟩ := hw
  clear hK2 hne2 hv2 hF2 ht hvm
  have hP : va_P (dC, dI) vwCl (sw a v cB nb f ml (nI cn)) _ := hP
  have hf2 := hw
  exact W.zret (v := r1) hx hb hr (hf2) (fun t ht hW => ⟨⟨r1, (v, cB, nb, f, ml, (nI cn)), rfl, ⟨rfl, hf2⟩, sB.of ht hW hP hK hne hv hF⟩, hS.F ht⟩) hS.2.2 dJ4_charAt_5068e_5
set_option maxHeartbeats 4000000 in
set_option maxRecDepth 100000 in
theorem s_ens0 (l : Launch) (dC : Nat → ClassId) (dI : Nat → Nat → Nat) (ad : Nat → Nat) (E : EP) (hEE : EC ad E) (a v : Nat) (cB : ClassId) (nb : Nat) (f : Nat → Int32) (ml : Int32) (cn sz : Nat) (va : Nat) (hne : a ≠ v) (hF : sb_Fit f) (hnb : nb = 16 ∨ nb = 34) (hcn : cn ≤ nb) (hva : va < 35) (hva2 : va ≤ nb) : Met l yJ5_ensureCapacityInternal_d00df wsJ5_ensureCapacityInternal_d00df ({ frames := 0, cells := 0, slots := 0, locals := 0 }) (va_Pc [.ref a, .int (nI va)] (sPre E dC dI a v cB nb f ml (nI cn) sz)) (va_Qv (fun (x : SU) => x = (v, cB, nb, f, ml, nI cn) ∧ (True)) (sB dC dI a v sz) (sA a v sz)) 0 0 (sA a v sz) := by
  refine Met.ofW (cc := cJ5_ensureCapacityInternal_d00df) (maxL := 3) (ret := none) (by decide) rfl ?_
  intro p e s m args below meth c s₁ B hml hv
  obtain ⟨rfl, hsz, hP, hK, hE⟩ := hv
  have hx := B.exec
  have hb := B.bytes
  have hr := B.returns
  have hts := atoms_spec (ws := wsJ5_ensureCapacityInternal_d00df) B.pre
  have hown : s.vm.findClass RJ5 = some m.cls := findClass_of_methodNamed B.named
  subst hsz
  have hEv := hEE.1 _ _ _ hE
  have hS : va_S (sA a v s.heap.size) s.heap s.heap [] := va_S.rf
  have hv : v = v ∨ s.heap.size ≤ v := Or.inl rfl
  have hl := lv_entry ([.ref a, .int (nI va)]) (n := 3) (Nat.le_of_ble_eq_true rfl)
  rw [lg_entry_eq]
  generalize (lg_sl ([.ref a, .int (nI va)]) ++ List.replicate (3 - (lg_sl ([.ref a, .int (nI va)])).length) Slot.unset).toArray = ls at hl ⊢
  have hl : lv_has ls 3 [(0, .ref a), (1, .int (nI va))] := hl
  refine lv_aload_n hx hb dJ5_ensureCapacityInternal_d00df_0 rfl (lv_at hl 0 rfl) ?_
  refine va_get (D := (dC, dI)) (ci := 0) (v := .ref v) (C := RJ4) (T := TJ4) (N := 4) hx hb hts ii_J5_ensureCapacityInternal_d00df_J4 hown hK hP 0 rfl rfl 0 (by decide) (hts _ mm_J5_ensureCapacityInternal_d00df_1) (fun _ hh => hh) rfl dJ5_ensureCapacityInternal_d00df_1 ?_
  refine va_alen (v := nI nb) hx hb hK hP 1 0 rfl rfl rfl dJ5_ensureCapacityInternal_d00df_4 ?_
  refine lv_aload_n hx hb dJ5_ensureCapacityInternal_d00df_5 rfl (lv_at hl 0 rfl) ?_
  refine va_get (D := (dC, dI)) (ci := 0) (v := .int 0) (C := RJ4) (T := TJ4) (N := 4) hx hb hts ii_J5_ensureCapacityInternal_d00df_J4 hown hK hP 0 rfl rfl 1 (by decide) (hts _ mm_J5_ensureCapacityInternal_d00df_2) (fun _ hh => hh) rfl dJ5_ensureCapacityInternal_d00df_6 ?_
  refine lv_ishr hx hb dJ5_ensureCapacityInternal_d00df_9 ?_
  refine zz_top (v := (nI nb)) (sb_shr0 _) ?_
  refine lv_istore_n (lv' := [(2, .int (nI nb)), (0, .ref a), (1, .int (nI va))]) hx hb dJ5_ensureCapacityInternal_d00df_10 rfl hl (by decide) rfl (fun ls hl => ?_)
  refine lv_iload_n hx hb dJ5_ensureCapacityInternal_d00df_11 rfl (lv_at hl 2 rfl) ?_
  refine lv_iload_n hx hb dJ5_ensureCapacityInternal_d00df_12 rfl (lv_at hl 0 rfl) ?_
  refine lv_isub hx hb dJ5_ensureCapacityInternal_d00df_13 ?_
  refine lv_topi (fun z1 ez1 => ?_)
  refine lv_if_le (tgt := 38) hx hb dJ5_ensureCapacityInternal_d00df_14 (by decide) (fun c1 => ?_) (fun c1 => ?_)
  · exact W.vret hx hb hr (fun t ht hW => ⟨⟨(v, cB, nb, f, ml, (nI cn)), rfl, ⟨rfl, trivial⟩, sB.of ht hW hP hK hne hv hF⟩, hS.F ht⟩) hS.2.2 dJ5_ensureCapacityInternal_d00df_38
  · exact absurd (by rw [ez1]; exact (zz_sub0 (by omega) (by omega)).mpr (by omega)) c1
set_option maxHeartbeats 4000000 in
set_option maxRecDepth 100000 in
theorem s_setLength0 (l : Launch) (dC : Nat → ClassId) (dI : Nat → Nat → Nat) (ad : Nat → Nat) (E : EP) (hEE : EC ad E) (a v : Nat) (cB : ClassId) (nb : Nat) (f : Nat → Int32) (ml : Int32) (cn sz : Nat) (hne : a ≠ v) (hF : sb_Fit f) (hnb : nb = 16 ∨ nb = 34) (hcn : cn ≤ nb) : Met l yJ5_setLength_d00df wsJ5_setLength_d00df ({ frames := 1, cells := 0, slots := 0, locals := 22 }) (va_Pc [.ref a, .int 0] (sPre E dC dI a v cB nb f ml (nI cn) sz)) (va_Qv (fun (x : SU) => v = x.1 ∧ cB = x.2.1 ∧ nb = x.2.2.1 ∧ x.2.2.2.2.2 = nI (0) ∧ (True)) (sB dC dI a v sz) (sA a v sz)) 0 0 (sA a v sz) := by
  refine Met.ofW (cc := cJ5_setLength_d00df) (maxL := 2) (ret := none) (by decide) rfl ?_
  intro p e s m args below meth c s₁ B hml hv
  obtain ⟨rfl, hsz, hP, hK, hE⟩ := hv
  have hx := B.exec
  have hb := B.bytes
  have hr := B.returns
  have hts := atoms_spec (ws := wsJ5_setLength_d00df) B.pre
  have hown : s.vm.findClass RJ5 = some m.cls := findClass_of_methodNamed B.named
  subst hsz
  have hEv := hEE.1 _ _ _ hE
  have hS : va_S (sA a v s.heap.size) s.heap s.heap [] := va_S.rf
  have hv : v = v ∨ s.heap.size ≤ v := Or.inl rfl
  have hl := lv_entry ([.ref a, .int 0]) (n := 2) (Nat.le_of_ble_eq_true rfl)
  rw [lg_entry_eq]
  generalize (lg_sl ([.ref a, .int 0]) ++ List.replicate (2 - (lg_sl ([.ref a, .int 0])).length) Slot.unset).toArray = ls at hl ⊢
  have hl : lv_has ls 2 [(0, .ref a), (1, .int 0)] := hl
  refine lv_iload_n hx hb dJ5_setLength_d00df_0 rfl (lv_at hl 1 rfl) ?_
  refine lv_if_ge (tgt := 13) hx hb dJ5_setLength_d00df_1 (by decide) (fun _ => ?_) (fun cc => absurd (by decide) cc)
  refine lv_aload_n hx hb dJ5_setLength_d00df_13 rfl (lv_at hl 0 rfl) ?_
  refine lv_iload_n hx hb dJ5_setLength_d00df_14 rfl (lv_at hl 1 rfl) ?_
  refine va_callv (va_runU (As := [.int 0]) (rest := []) ⟨hx, hb, hml, hown, hts⟩ (s_ens0 l dC dI ad E hEE a v cB nb f ml cn _ 0 hne hF (by omega) (by omega) (by omega) (by omega)) (va_cwU 1 hts gJ5_setLength_d00df_J5_ensureCapacityInternal_d00df_u100J4 rfl rfl rfl rfl (by decide +kernel) ⟨Nat.le_of_ble_eq_true rfl, Nat.le_of_ble_eq_true rfl⟩) ⟨fun a U g mk q => ⟨q.1, sPre.blind hEE q.2⟩, va_recv hK hP (ci := 0) (q0 := 0) rfl rfl, fun U hU hW => ⟨rfl, sPre.of hEE hP hK hE hS (sA.le hv hS.1) hU hW⟩⟩ rfl rfl hl.1 rfl (lv_room (Nat.le_of_ble_eq_true rfl)) dJ5_setLength_d00df_15 ⟨Nat.le_of_ble_eq_true rfl, Nat.le_of_ble_eq_true rfl⟩) hS (fun q _ h => sA.le hv hS.1 q h) (sA.le hv hS.1) (fun x t H locs ht hvm hw hB _ _ hS => ?_)
  obtain ⟨hP, hK2, hne2, hv2, hF2⟩ := hB
  rw [ht] at hP
  obtain ⟨rfl, hw⟩ := hw
  clear hK2 hne2 hv2 hF2 ht hvm
  have hP : va_P (dC, dI) vwCl (sw a v cB nb f ml (nI cn)) _ := hP
  clear hw
  refine lv_aload_n hx hb dJ5_setLength_d00df_18 rfl (lv_at hl 0 rfl) ?_
  refine va_get (D := (dC, dI)) (ci := 0) (v := .int (nI cn)) (C := RJ4) (T := TJ4) (N := 4) hx hb hts ii_J5_setLength_d00df_J4 hown hK hP 0 rfl rfl 3 (by decide) (hts _ mm_J5_setLength_d00df_1) (fun _ hh => hh) rfl dJ5_setLength_d00df_19 ?_
  refine lv_iload_n hx hb dJ5_setLength_d00df_22 rfl (lv_at hl 1 rfl) ?_
  refine lv_icmp_ge (tgt := 63) hx hb dJ5_setLength_d00df_23 (by decide) (fun _ => ?_) (fun cc => absurd ((nI_leI (a := 0) (b := cn) (by omega) (by omega)).mpr (by omega)) cc)
  refine lv_aload_n hx hb dJ5_setLength_d00df_63 rfl (lv_at hl 0 rfl) ?_
  refine va_get (D := (dC, dI)) (ci := 0) (v := .int (nI cn)) (C := RJ4) (T := TJ4) (N := 4) hx hb hts ii_J5_setLength_d00df_J4 hown hK hP 0 rfl rfl 3 (by decide) (hts _ mm_J5_setLength_d00df_1) (fun _ hh => hh) rfl dJ5_setLength_d00df_64 ?_
  refine lv_iload_n hx hb dJ5_setLength_d00df_67 rfl (lv_at hl 1 rfl) ?_
  refine lv_icmp_le (tgt := 76) hx hb dJ5_setLength_d00df_68 (by decide) (fun c3 => ?_) (fun c3 => ?_)
  · have c3 : cn ≤ 0 := (nI_leI (a := cn) (b := 0) (by omega) (by omega)).mp c3
    refine lv_aload_n hx hb dJ5_setLength_d00df_76 rfl (lv_at hl 0 rfl) ?_
    refine lv_iload_n hx hb dJ5_setLength_d00df_77 rfl (lv_at hl 1 rfl) ?_
    refine va_put (D := (dC, dI)) (ci := 0) (v := .int 0) (ty := .int) (C := RJ4) (T := TJ4) (N := 4) hx hb hts ii_J5_setLength_d00df_J4 tyJ4 tyJ4_ok nmJ4 hown hK hP (sD hne hv _ _ _ _ _) hS 0 rfl rfl 3 (by decide) (hts _ mm_J5_setLength_d00df_1) (fun _ hh => hh) rfl (by decide +kernel) rfl rfl (Nat.le_of_ble_eq_true rfl) dJ5_setLength_d00df_78 (fun H locs hP _ hS => ?_)
    have hP : va_P (dC, dI) vwCl (sw a v cB nb f ml 0) H := hP
    exact W.vret hx hb hr (fun t ht hW => ⟨⟨(v, cB, nb, f, ml, 0), rfl, ⟨rfl, rfl, rfl, by show 0 = nI (0); rfl, trivial⟩, sB.of ht hW hP hK hne hv hF⟩, hS.F ht⟩) hS.2.2 dJ5_setLength_d00df_81
  · have c3 : ¬ cn ≤ 0 := fun hh => c3 ((nI_leI (a := cn) (b := 0) (by omega) (by omega)).mpr hh)
    refine lv_aload_n hx hb dJ5_setLength_d00df_71 rfl (lv_at hl 0 rfl) ?_
    refine lv_iconst (v := 1) hx hb dJ5_setLength_d00df_72 (by decide) ?_
    refine va_put (D := (dC, dI)) (ci := 0) (v := .int 1) (ty := .boolean) (C := RJ4) (T := TJ4) (N := 4) hx hb hts ii_J5_setLength_d00df_J4 tyJ4 tyJ4_ok nmJ4 hown hK hP (sD hne hv _ _ _ _ _) hS 0 rfl rfl 2 (by decide) (hts _ mm_J5_setLength_d00df_3) (fun _ hh => hh) rfl (by decide +kernel) rfl rfl (Nat.le_of_ble_eq_true rfl) dJ5_setLength_d00df_73 (fun H locs hP _ hS => ?_)
    have hP : va_P (dC, dI) vwCl (sw a v cB nb f 1 (nI cn)) H := hP
    refine lv_aload_n hx hb dJ5_setLength_d00df_76 rfl (lv_at hl 0 rfl) ?_
    refine lv_iload_n hx hb dJ5_setLength_d00df_77 rfl (lv_at hl 1 rfl) ?_
    refine va_put (D := (dC, dI)) (ci := 0) (v := .int 0) (ty := .int) (C := RJ4) (T := TJ4) (N := 4) hx hb hts ii_J5_setLength_d00df_J4 tyJ4 tyJ4_ok nmJ4 hown hK hP (sD hne hv _ _ _ _ _) hS 0 rfl rfl 3 (by decide) (hts _ mm_J5_setLength_d00df_1) (fun _ hh => hh) rfl (by decide +kernel) rfl rfl (Nat.le_of_ble_eq_true rfl) dJ5_setLength_d00df_78 (fun H locs hP _ hS => ?_)
    have hP : va_P (dC, dI) vwCl (sw a v cB nb f 1 0) H := hP
    exact W.vret hx hb hr (fun t ht hW => ⟨⟨(v, cB, nb, f, 1, 0), rfl, ⟨rfl, rfl, rfl, by show 0 = nI (0); rfl, trivial⟩, sB.of ht hW hP hK hne hv hF⟩, hS.F ht⟩) hS.2.2 dJ5_setLength_d00df_81
set_option maxHeartbeats 4000000 in
set_option maxRecDepth 100000 in
theorem s_setLength4 (l : Launch) (dC : Nat → ClassId) (dI : Nat → Nat → Nat) (ad : Nat → Nat) (E : EP) (hEE : EC ad E) (a v : Nat) (cB : ClassId) (nb : Nat) (f : Nat → Int32) (ml : Int32) (cn sz : Nat) (hne : a ≠ v) (hF : sb_Fit f) (hnb : nb = 16 ∨ nb = 34) (hcn : cn ≤ nb) : Met l yJ4_setLength_d00df wsJ4_setLength_d00df ({ frames := 2, cells := 0, slots := 0, locals := 43 }) (va_Pc [.ref a, .int 0] (sPre E dC dI a v cB nb f ml (nI cn) sz)) (va_Qv (fun (x : SU) => v = x.1 ∧ cB = x.2.1 ∧ nb = x.2.2.1 ∧ x.2.2.2.2.2 = nI (0) ∧ (True)) (sB dC dI a v sz) (sA a v sz)) 0 0 (sA a v sz) := by
  refine Met.ofW (cc := cJ4_setLength_d00df) (maxL := 2) (ret := none) (by decide) rfl ?_
  intro p e s m args below meth c s₁ B hml hv
  obtain ⟨rfl, hsz, hP, hK, hE⟩ := hv
  have hx := B.exec
  have hb := B.bytes
  have hr := B.returns
  have hts := atoms_spec (ws := wsJ4_setLength_d00df) B.pre
  have hown : s.vm.findClass RJ4 = some m.cls := findClass_of_methodNamed B.named
  subst hsz
  have hEv := hEE.1 _ _ _ hE
  have hS : va_S (sA a v s.heap.size) s.heap s.heap [] := va_S.rf
  have hv : v = v ∨ s.heap.size ≤ v := Or.inl rfl
  have hl := lv_entry ([.ref a, .int 0]) (n := 2) (Nat.le_of_ble_eq_true rfl)
  rw [lg_entry_eq]
  generalize (lg_sl ([.ref a, .int 0]) ++ List.replicate (2 - (lg_sl ([.ref a, .int 0])).length) Slot.unset).toArray = ls at hl ⊢
  have hl : lv_has ls 2 [(0, .ref a), (1, .int 0)] := hl
  refine lv_aload_n hx hb dJ4_setLength_d00df_0 rfl (lv_at hl 0 rfl) ?_
  refine lv_iload_n hx hb dJ4_setLength_d00df_1 rfl (lv_at hl 1 rfl) ?_
  refine va_callv (va_runSU (hK.1 0 _ rfl).2 (As := [.int 0]) (rest := []) ⟨hx, hb, hml, hown, hts⟩ (s_setLength0 l dC dI ad E hEE a v cB nb f ml cn _ hne hF (by omega) (by omega) ) (va_cwSU 1 hts gJ4_setLength_d00df_J5_setLength_d00df_s333 rfl rfl rfl (by decide +kernel) ⟨Nat.le_of_ble_eq_true rfl, Nat.le_of_ble_eq_true rfl⟩) ⟨fun a U g mk q => ⟨q.1, sPre.blind hEE q.2⟩, va_recv hK hP (ci := 0) (q0 := 0) rfl rfl, fun U hU hW => ⟨rfl, sPre.of hEE hP hK hE hS (sA.le hv hS.1) hU hW⟩⟩ rfl rfl hl.1 rfl (lv_room (Nat.le_of_ble_eq_true rfl)) dJ4_setLength_d00df_2 ⟨Nat.le_of_ble_eq_true rfl, Nat.le_of_ble_eq_true rfl⟩) hS (fun q _ h => sA.le hv hS.1 q h) (sA.le hv hS.1) (fun x t H locs ht hvm hw hB _ _ hS => ?_)
  obtain ⟨hP, hK2, hne2, hv2, hF2⟩ := hB
  rw [ht] at hP
  obtain ⟨v2, cB3, nb4, f5, ml6, cn7⟩ := x
  dsimp only at hP hK2 hne2 hv2 hF2 hw
  have hK := va_K.moved hvm.symm hK2
  obtain ⟨rfl, rfl, rfl, rfl, hw⟩ := hw
  have hF := hF2
  clear hK2 hne2 hv2 hF2 ht hvm
  have hP : va_P (dC, dI) vwCl (sw a v cB nb f5 ml6 (nI 0)) _ := hP
  clear hw
  exact W.vret hx hb hr (fun t ht hW => ⟨⟨(v, cB, nb, f5, ml6, (nI 0)), rfl, ⟨rfl, rfl, rfl, congrArg nI (show 0 = 0 by omega), trivial⟩, sB.of ht hW hP hK hne hv hF⟩, hS.F ht⟩) hS.2.2 dJ4_setLength_d00df_5
set_option maxHeartbeats 4000000 in
set_option maxRecDepth 100000 in
theorem s_J1_canEncode_fc78d (l : Launch) (dC : Nat → ClassId) (dI : Nat → Nat → Nat) (ad : Nat → Nat) (E : EP) (hEE : EC ad E) (a v : Nat) (cB : ClassId) (nb : Nat) (f : Nat → Int32) (ml : Int32) (cn sz : Nat) (va : Nat) (hne : a ≠ v) (hF : sb_Fit f) (hnb : nb = 16 ∨ nb = 34) (hcn : cn ≤ nb) (hva : va < 256) : Met l yJ1_canEncode_fc78d wsJ1_canEncode_fc78d ({ frames := 0, cells := 0, slots := 0, locals := 0 }) (va_Pc [.int (nI va)] (sPre E dC dI a v cB nb f ml (nI cn) sz)) (va_Qi (fun (r : Int32) (x : SU) => x = (v, cB, nb, f, ml, nI cn) ∧ (r = 1)) (sB dC dI a v sz) (sA a v sz)) 0 0 (sA a v sz) := by
  refine Met.ofW (cc := cJ1_canEncode_fc78d) (maxL := 1) (ret := (some .boolean)) (by decide) rfl ?_
  intro p e s m args below meth c s₁ B hml hv
  obtain ⟨rfl, hsz, hP, hK, hE⟩ := hv
  have hx := B.exec
  have hb := B.bytes
  have hr := B.returns
  have hts := atoms_spec (ws := wsJ1_canEncode_fc78d) B.pre
  have hown : s.vm.findClass RJ1 = some m.cls := findClass_of_methodNamed B.named
  subst hsz
  have hEv := hEE.1 _ _ _ hE
  have hS : va_S (sA a v s.heap.size) s.heap s.heap [] := va_S.rf
  have hv : v = v ∨ s.heap.size ≤ v := Or.inl rfl
  have hl := lv_entry ([.int (nI va)]) (n := 1) (Nat.le_of_ble_eq_true rfl)
  rw [lg_entry_eq]
  generalize (lg_sl ([.int (nI va)]) ++ List.replicate (1 - (lg_sl ([.int (nI va)])).length) Slot.unset).toArray = ls at hl ⊢
  have hl : lv_has ls 1 [(0, .int (nI va))] := hl
  refine lv_iload_n hx hb dJ1_canEncode_fc78d_0 rfl (lv_at hl 0 rfl) ?_
  refine lv_sipush (v := 255) hx hb dJ1_canEncode_fc78d_1 (by decide) ?_
  refine lv_icmp_gt (tgt := 11) hx hb dJ1_canEncode_fc78d_4 (by decide) (fun cc => absurd ((nI_ltI (a := 255) (b := va) (by omega) (by omega)).mp cc) (by omega)) (fun _ => ?_)
  refine lv_iconst (v := 1) hx hb dJ1_canEncode_fc78d_7 (by decide) ?_
  refine lv_goto (tgt := 12) hx hb dJ1_canEncode_fc78d_8 (by decide) ?_
  exact W.zret (v := 1) hx hb hr rfl (fun t ht hW => ⟨⟨1, (v, cB, nb, f, ml, (nI cn)), rfl, ⟨rfl, rfl⟩, sB.of ht hW hP hK hne hv hF⟩, hS.F ht⟩) hS.2.2 dJ1_canEncode_fc78d_12
set_option maxHeartbeats 4000000 in
set_option maxRecDepth 100000 in
theorem s_J5_append_3fe6f (l : Launch) (dC : Nat → ClassId) (dI : Nat → Nat → Nat) (ad : Nat → Nat) (E : EP) (hEE : EC ad E) (a v : Nat) (cB : ClassId) (nb : Nat) (f : Nat → Int32) (ml : Int32) (cn sz : Nat) (va : Nat) (hne : a ≠ v) (hF : sb_Fit f) (hnb : nb = 16 ∨ nb = 34) (hcn : cn ≤ nb) (hva : va < 256) (hc2 : cn + 1 ≤ nb) : Met l yJ5_append_3fe6f wsJ5_append_3fe6f ({ frames := 1, cells := 0, slots := 0, locals := 22 }) (va_Pc [.ref a, .int (nI va)] (sPre E dC dI a v cB nb f ml (nI cn) sz)) (va_Qr (fun (_ : SU) => True) (fun (x : SU) (r : Nat) (t : State) => (v = x.1 ∧ cB = x.2.1 ∧ nb = x.2.2.1 ∧ x.2.2.2.2.2 = nI (cn + 1) ∧ (True)) ∧ r = a ∧ sB dC dI a v sz x t) (sA a v sz)) 0 0 (sA a v sz) := by
  refine Met.ofW (cc := cJ5_append_3fe6f) (maxL := 2) (ret := (some (.object "java/lang/AbstractStringBuilder"))) (by decide) rfl ?_
  intro p e s m args below meth c s₁ B hml hv
  obtain ⟨rfl, hsz, hP, hK, hE⟩ := hv
  have hx := B.exec
  have hb := B.bytes
  have hr := B.returns
  have hts := atoms_spec (ws := wsJ5_append_3fe6f) B.pre
  have hown : s.vm.findClass RJ5 = some m.cls := findClass_of_methodNamed B.named
  subst hsz
  have hEv := hEE.1 _ _ _ hE
  have hS : va_S (sA a v s.heap.size) s.heap s.heap [] := va_S.rf
  have hv : v = v ∨ s.heap.size ≤ v := Or.inl rfl
  have hl := lv_entry ([.ref a, .int (nI va)]) (n := 2) (Nat.le_of_ble_eq_true rfl)
  rw [lg_entry_eq]
  generalize (lg_sl ([.ref a, .int (nI va)]) ++ List.replicate (2 - (lg_sl ([.ref a, .int (nI va)])).length) Slot.unset).toArray = ls at hl ⊢
  have hl : lv_has ls 2 [(0, .ref a), (1, .int (nI va))] := hl
  refine lv_aload_n hx hb dJ5_append_3fe6f_0 rfl (lv_at hl 0 rfl) ?_
  refine lv_aload_n hx hb dJ5_append_3fe6f_1 rfl (lv_at hl 0 rfl) ?_
  refine va_get (D := (dC, dI)) (ci := 0) (v := .int (nI cn)) (C := RJ4) (T := TJ4) (N := 4) hx hb hts ii_J5_append_3fe6f_J4 hown hK hP 0 rfl rfl 3 (by decide) (hts _ mm_J5_append_3fe6f_1) (fun _ hh => hh) rfl dJ5_append_3fe6f_2 ?_
  refine lv_iconst (v := 1) hx hb dJ5_append_3fe6f_5 (by decide) ?_
  refine lv_iadd hx hb dJ5_append_3fe6f_6 ?_
  refine zz_top (v := nI (cn + 1)) (nI_add cn 1) ?_
  refine va_callv (va_runU (As := [.int (nI (cn + 1))]) (rest := []) ⟨hx, hb, hml, hown, hts⟩ (s_ens0 l dC dI ad E hEE a v cB nb f ml cn _ (cn + 1) hne hF (by omega) (by omega) (by omega) (by omega)) (va_cwU 1 hts gJ5_append_3fe6f_J5_ensureCapacityInternal_d00df_u100J4 rfl rfl rfl rfl (by decide +kernel) ⟨Nat.le_of_ble_eq_true rfl, Nat.le_of_ble_eq_true rfl⟩) ⟨fun a U g mk q => ⟨q.1, sPre.blind hEE q.2⟩, va_recv hK hP (ci := 0) (q0 := 0) rfl rfl, fun U hU hW => ⟨rfl, sPre.of hEE hP hK hE hS (sA.le hv hS.1) hU hW⟩⟩ rfl rfl hl.1 rfl (lv_room (Nat.le_of_ble_eq_true rfl)) dJ5_append_3fe6f_7 ⟨Nat.le_of_ble_eq_true rfl, Nat.le_of_ble_eq_true rfl⟩) hS (fun q _ h => sA.le hv hS.1 q h) (sA.le hv hS.1) (fun x t H locs ht hvm hw hB _ _ hS => ?_)
  obtain ⟨hP, hK2, hne2, hv2, hF2⟩ := hB
  rw [ht] at hP
  obtain ⟨rfl, hw⟩ := hw
  clear hK2 hne2 hv2 hF2 ht hvm
  have hP : va_P (dC, dI) vwCl (sw a v cB nb f ml (nI cn)) _ := hP
  clear hw
  refine lv_aload_n hx hb dJ5_append_3fe6f_10 rfl (lv_at hl 0 rfl) ?_
  refine va_calli (va_runU (As := []) (rest := []) ⟨hx, hb, hml, hown, hts⟩ (s_J5_isLatin1_aae02 l dC dI ad E hEE a v cB nb f ml cn _ hne hF (by omega) (by omega) ) (va_cwU 0 hts gJ5_append_3fe6f_J5_isLatin1_aae02_u83J4 rfl rfl rfl rfl (by decide +kernel) ⟨Nat.le_of_ble_eq_true rfl, Nat.le_of_ble_eq_true rfl⟩) ⟨fun a U g mk q => ⟨q.1, sPre.blind hEE q.2⟩, va_recv hK hP (ci := 0) (q0 := 0) rfl rfl, fun U hU hW => ⟨rfl, sPre.of hEE hP hK hE hS (sA.le hv hS.1) hU hW⟩⟩ rfl rfl hl.1 rfl (lv_room (Nat.le_of_ble_eq_true rfl)) dJ5_append_3fe6f_11 ⟨Nat.le_of_ble_eq_true rfl, Nat.le_of_ble_eq_true rfl⟩) hS (fun q _ h => sA.le hv hS.1 q h) (sA.le hv hS.1) (fun r2 x t H locs ht hvm hw hB _ _ hS => ?_)
  obtain ⟨hP, hK2, hne2, hv2, hF2⟩ := hB
  rw [ht] at hP
  obtain ⟨rfl, hw⟩ := hw
  clear hK2 hne2 hv2 hF2 ht hvm
  have hP : va_P (dC, dI) vwCl (sw a v cB nb f ml (nI cn)) _ := hP
  obtain rfl := hw
  refine lv_if_eq (tgt := 45) hx hb dJ5_append_3fe6f_14 (by decide) (fun cc => absurd cc (by decide)) (fun _ => ?_)
  refine lv_iload_n hx hb dJ5_append_3fe6f_17 rfl (lv_at hl 1 rfl) ?_
  refine va_calli (va_runS (As := [.int (nI va)]) (rest := []) ⟨hx, hb, hml, hown, hts⟩ (s_J1_canEncode_fc78d l dC dI ad E hEE a v cB nb f ml cn _ va hne hF (by omega) (by omega) (by omega)) (va_cwS 1 hts gJ5_append_3fe6f_J1_canEncode_fc78d rfl rfl rfl (by decide +kernel) ⟨Nat.le_of_ble_eq_true rfl, Nat.le_of_ble_eq_true rfl⟩) ⟨fun a U g mk q => ⟨q.1, sPre.blind hEE q.2⟩, fun U hU hW => ⟨rfl, sPre.of hEE hP hK hE hS (sA.le hv hS.1) hU hW⟩⟩ rfl rfl hl.1 rfl (lv_room (Nat.le_of_ble_eq_true rfl)) dJ5_append_3fe6f_18 ⟨Nat.le_of_ble_eq_true rfl, Nat.le_of_ble_eq_true rfl⟩) hS (fun q _ h => sA.le hv hS.1 q h) (sA.le hv hS.1) (fun r3 x t H locs ht hvm hw hB _ _ hS => ?_)
  obtain ⟨hP, hK2, hne2, hv2, hF2⟩ := hB
  rw [ht] at hP
  obtain ⟨rfl, hw⟩ := hw
  clear hK2 hne2 hv2 hF2 ht hvm
  have hP : va_P (dC, dI) vwCl (sw a v cB nb f ml (nI cn)) _ := hP
  obtain rfl := hw
  refine lv_if_eq (tgt := 45) hx hb dJ5_append_3fe6f_21 (by decide) (fun cc => absurd cc (by decide)) (fun _ => ?_)
  refine lv_aload_n hx hb dJ5_append_3fe6f_24 rfl (lv_at hl 0 rfl) ?_
  refine va_get (D := (dC, dI)) (ci := 0) (v := .ref v) (C := RJ4) (T := TJ4) (N := 4) hx hb hts ii_J5_append_3fe6f_J4 hown hK hP 0 rfl rfl 0 (by decide) (hts _ mm_J5_append_3fe6f_2) (fun _ hh => hh) rfl dJ5_append_3fe6f_25 ?_
  refine lv_aload_n hx hb dJ5_append_3fe6f_28 rfl (lv_at hl 0 rfl) ?_
  refine lv_dup hx hb dJ5_append_3fe6f_29 rfl ?_
  refine va_get (D := (dC, dI)) (ci := 0) (v := .int (nI cn)) (C := RJ4) (T := TJ4) (N := 4) hx hb hts ii_J5_append_3fe6f_J4 hown hK hP 0 rfl rfl 3 (by decide) (hts _ mm_J5_append_3fe6f_1) (fun _ hh => hh) rfl dJ5_append_3fe6f_30 ?_
  refine lv_dup_x1 hx hb dJ5_append_3fe6f_33 rfl rfl ?_
  refine lv_iconst (v := 1) hx hb dJ5_append_3fe6f_34 (by decide) ?_
  refine lv_iadd hx hb dJ5_append_3fe6f_35 ?_
  refine zz_top (v := nI (cn + 1)) (nI_add cn 1) ?_
  refine va_put (D := (dC, dI)) (ci := 0) (v := .int (nI (cn + 1))) (ty := .int) (C := RJ4) (T := TJ4) (N := 4) hx hb hts ii_J5_append_3fe6f_J4 tyJ4 tyJ4_ok nmJ4 hown hK hP (sD hne hv _ _ _ _ _) hS 0 rfl rfl 3 (by decide) (hts _ mm_J5_append_3fe6f_1) (fun _ hh => hh) rfl (by decide +kernel) rfl rfl (Nat.le_of_ble_eq_true rfl) dJ5_append_3fe6f_36 (fun H locs hP _ hS => ?_)
  have hP : va_P (dC, dI) vwCl (sw a v cB nb f ml (nI (cn + 1))) H := hP
  refine lv_iload_n hx hb dJ5_append_3fe6f_39 rfl (lv_at hl 1 rfl) ?_
  refine lv_i2b hx hb dJ5_append_3fe6f_40 rfl ?_
  refine lv_topi (fun z4 ez4 => ?_)
  clear ez4
  refine va_bast hx hb hK hP (sD hne hv _ _ _ _ _) hS 1 0 rfl rfl (i := (nI cn)) (vp_in_nI (by omega) (by omega)) dJ5_append_3fe6f_41 (fun H locs hP _ hS => ?_)
  obtain ⟨f5, ef5⟩ : ∃ y, y = upd f ((nI cn)).toNatClampNeg (vp_nar .byte z4) := ⟨_, rfl⟩
  have hF : sb_Fit f5 := by rw [ef5]; exact sb_fitU hF (zz_fitn _)
  have hP : va_P (dC, dI) vwCl (sw a v cB nb f5 ml (nI (cn + 1))) H := by rw [ef5]; exact hP
  clear ef5
  refine lv_goto (tgt := 75) hx hb dJ5_append_3fe6f_42 (by decide) ?_
  refine lv_aload_n hx hb dJ5_append_3fe6f_75 rfl (lv_at hl 0 rfl) ?_
  exact W.aret (v := .ref a) hx hb hr (Or.inl ⟨_, rfl⟩) (Or.inr ⟨_, rfl⟩) (fun t ht hW => ⟨⟨(v, cB, nb, f5, ml, (nI (cn + 1))), a, rfl, trivial, ⟨rfl, rfl, rfl, congrArg nI (show (cn + 1) = cn + 1 by omega), trivial⟩, rfl, sB.of ht hW hP hK hne hv hF⟩, hS.F ht⟩) hS.2.2 dJ5_append_3fe6f_76
set_option maxHeartbeats 4000000 in
set_option maxRecDepth 100000 in
theorem s_J4_append_cf468 (l : Launch) (dC : Nat → ClassId) (dI : Nat → Nat → Nat) (ad : Nat → Nat) (E : EP) (hEE : EC ad E) (a v : Nat) (cB : ClassId) (nb : Nat) (f : Nat → Int32) (ml : Int32) (cn sz : Nat) (va : Nat) (hne : a ≠ v) (hF : sb_Fit f) (hnb : nb = 16 ∨ nb = 34) (hcn : cn ≤ nb) (hva : va < 256) (hc2 : cn + 1 ≤ nb) : Met l yJ4_append_cf468 wsJ4_append_cf468 ({ frames := 2, cells := 0, slots := 0, locals := 43 }) (va_Pc [.ref a, .int (nI va)] (sPre E dC dI a v cB nb f ml (nI cn) sz)) (va_Qr (fun (_ : SU) => True) (fun (x : SU) (r : Nat) (t : State) => (v = x.1 ∧ cB = x.2.1 ∧ nb = x.2.2.1 ∧ x.2.2.2.2.2 = nI (cn + 1) ∧ (True)) ∧ r = a ∧ sB dC dI a v sz x t) (sA a v sz)) 0 0 (sA a v sz) := by
  refine Met.ofW (cc := cJ4_append_cf468) (maxL := 2) (ret := (some (.object "java/lang/StringBuilder"))) (by decide) rfl ?_
  intro p e s m args below meth c s₁ B hml hv
  obtain ⟨rfl, hsz, hP, hK, hE⟩ := hv
  have hx := B.exec
  have hb := B.bytes
  have hr := B.returns
  have hts := atoms_spec (ws := wsJ4_append_cf468) B.pre
  have hown : s.vm.findClass RJ4 = some m.cls := findClass_of_methodNamed B.named
  subst hsz
  have hEv := hEE.1 _ _ _ hE
  have hS : va_S (sA a v s.heap.size) s.heap s.heap [] := va_S.rf
  have hv : v = v ∨ s.heap.size ≤ v := Or.inl rfl
  have hl := lv_entry ([.ref a, .int (nI va)]) (n := 2) (Nat.le_of_ble_eq_true rfl)
  rw [lg_entry_eq]
  generalize (lg_sl ([.ref a, .int (nI va)]) ++ List.replicate (2 - (lg_sl ([.ref a, .int (nI va)])).length) Slot.unset).toArray = ls at hl ⊢
  have hl : lv_has ls 2 [(0, .ref a), (1, .int (nI va))] := hl
  refine lv_aload_n hx hb dJ4_append_cf468_0 rfl (lv_at hl 0 rfl) ?_
  refine lv_iload_n hx hb dJ4_append_cf468_1 rfl (lv_at hl 1 rfl) ?_
  refine va_callr (va_runSU (hK.1 0 _ rfl).2 (As := [.int (nI va)]) (rest := []) ⟨hx, hb, hml, hown, hts⟩ (s_J5_append_3fe6f l dC dI ad E hEE a v cB nb f ml cn _ va hne hF (by omega) (by omega) (by omega) (by omega)) (va_cwSU 1 hts gJ4_append_cf468_J5_append_3fe6f_s50 rfl rfl rfl (by decide +kernel) ⟨Nat.le_of_ble_eq_true rfl, Nat.le_of_ble_eq_true rfl⟩) ⟨fun a U g mk q => ⟨q.1, sPre.blind hEE q.2⟩, va_recv hK hP (ci := 0) (q0 := 0) rfl rfl, fun U hU hW => ⟨rfl, sPre.of hEE hP hK hE hS (sA.le hv hS.1) hU hW⟩⟩ rfl rfl hl.1 rfl (lv_room (Nat.le_of_ble_eq_true rfl)) dJ4_append_cf468_2 ⟨Nat.le_of_ble_eq_true rfl, Nat.le_of_ble_eq_true rfl⟩) hS (fun q _ h => sA.le hv hS.1 q h) (sA.le hv hS.1) (fun x r1 t H locs ht hvm hw hB _ _ hS => ?_)
  obtain ⟨hw, hr9, hB⟩ := hB
  replace hr9 := hr9.symm
  subst hr9
  obtain ⟨hP, hK2, hne2, hv2, hF2⟩ := hB
  rw [ht] at hP
  obtain ⟨v2, cB3, nb4, f5, ml6, cn7⟩ := x
  dsimp only at hP hK2 hne2 hv2 hF2 hw
  have hK := va_K.moved hvm.symm hK2
  obtain ⟨rfl, rfl, rfl, rfl, hw⟩ := hw
  have hF := hF2
  clear hK2 hne2 hv2 hF2 ht hvm
  have hP : va_P (dC, dI) vwCl (sw a v cB nb f5 ml6 (nI (cn + 1))) _ := hP
  clear hw
  refine lv_pop hx hb dJ4_append_cf468_5 rfl ?_
  refine lv_aload_n hx hb dJ4_append_cf468_6 rfl (lv_at hl 0 rfl) ?_
  exact W.aret (v := .ref a) hx hb hr (Or.inl ⟨_, rfl⟩) (Or.inr ⟨_, rfl⟩) (fun t ht hW => ⟨⟨(v, cB, nb, f5, ml6, (nI (cn + 1))), a, rfl, trivial, ⟨rfl, rfl, rfl, congrArg nI (show (cn + 1) = cn + 1 by omega), trivial⟩, rfl, sB.of ht hW hP hK hne hv hF⟩, hS.F ht⟩) hS.2.2 dJ4_append_cf468_7
set_option maxHeartbeats 4000000 in
set_option maxRecDepth 100000 in
theorem s_J8_newLength_cabcc (l : Launch) (dC : Nat → ClassId) (dI : Nat → Nat → Nat) (ad : Nat → Nat) (E : EP) (hEE : EC ad E) (a v : Nat) (cB : ClassId) (f : Nat → Int32) (ml : Int32) (cn sz : Nat) (va : Nat) (hne : a ≠ v) (hF : sb_Fit f) (hcn : cn ≤ 16) (hva : va < 19) : Met l yJ8_newLength_cabcc wsJ8_newLength_cabcc ({ frames := 1, cells := 0, slots := 0, locals := 21 }) (va_Pc [.int 16, .int (nI va), .int 18] (sPre E dC dI a v cB 16 f ml (nI cn) sz)) (va_Qi (fun (r : Int32) (x : SU) => x = (v, cB, 16, f, ml, nI cn) ∧ (r = 34)) (sB dC dI a v sz) (sA a v sz)) 0 0 (sA a v sz) := by
  refine Met.ofW (cc := cJ8_newLength_cabcc) (maxL := 4) (ret := (some .int)) (by decide) rfl ?_
  intro p e s m args below meth c s₁ B hml hv
  obtain ⟨rfl, hsz, hP, hK, hE⟩ := hv
  have hx := B.exec
  have hb := B.bytes
  have hr := B.returns
  have hts := atoms_spec (ws := wsJ8_newLength_cabcc) B.pre
  have hown : s.vm.findClass RJ8 = some m.cls := findClass_of_methodNamed B.named
  subst hsz
  have hEv := hEE.1 _ _ _ hE
  have hS : va_S (sA a v s.heap.size) s.heap s.heap [] := va_S.rf
  have hv : v = v ∨ s.heap.size ≤ v := Or.inl rfl
  have hl := lv_entry ([.int 16, .int (nI va), .int 18]) (n := 4) (Nat.le_of_ble_eq_true rfl)
  rw [lg_entry_eq]
  generalize (lg_sl ([.int 16, .int (nI va), .int 18]) ++ List.replicate (4 - (lg_sl ([.int 16, .int (nI va), .int 18])).length) Slot.unset).toArray = ls at hl ⊢
  have hl : lv_has ls 4 [(0, .int 16), (1, .int (nI va)), (2, .int 18)] := hl
  refine lv_iload_n hx hb dJ8_newLength_cabcc_0 rfl (lv_at hl 0 rfl) ?_
  refine lv_iload_n hx hb dJ8_newLength_cabcc_1 rfl (lv_at hl 1 rfl) ?_
  refine lv_iload_n hx hb dJ8_newLength_cabcc_2 rfl (lv_at hl 2 rfl) ?_
  refine va_mmax hx hb (by rw [hml]; exact hl.1.symm) hown (hts _ mm_J8_newLength_cabcc_1) (hts _ mm_J8_newLength_cabcc_2) (hts _ mm_J8_newLength_cabcc_3) (hts _ mm_J8_newLength_cabcc_4) (Nat.le_of_ble_eq_true rfl) (Nat.le_of_ble_eq_true rfl) (Nat.le_of_ble_eq_true rfl) (Nat.le_of_ble_eq_true rfl) dJ8_newLength_cabcc_3 ?_
  refine zz_top (v := 18) (zz_max18 (x := va) (by omega)) ?_
  refine lv_iadd hx hb dJ8_newLength_cabcc_6 ?_
  refine zz_top (v := 34) (by decide) ?_
  refine lv_istore_n (lv' := [(3, .int 34), (0, .int 16), (1, .int (nI va)), (2, .int 18)]) hx hb dJ8_newLength_cabcc_7 rfl hl (by decide) rfl (fun ls hl => ?_)
  refine lv_iconst (v := 0) hx hb dJ8_newLength_cabcc_8 (by decide) ?_
  refine lv_iload_n hx hb dJ8_newLength_cabcc_9 rfl (lv_at hl 0 rfl) ?_
  refine lv_icmp_ge (tgt := 21) hx hb dJ8_newLength_cabcc_10 (by decide) (fun cc => absurd cc (by decide)) (fun _ => ?_)
  refine lv_iload_n hx hb dJ8_newLength_cabcc_13 rfl (lv_at hl 0 rfl) ?_
  refine lv_ldc (v := 2147483639) hx hb hown (hts _ mm_J8_newLength_cabcc_5) dJ8_newLength_cabcc_14 ?_
  refine lv_icmp_gt (tgt := 21) hx hb dJ8_newLength_cabcc_16 (by decide) (fun cc => absurd cc (by decide)) (fun _ => ?_)
  refine lv_iload_n hx hb dJ8_newLength_cabcc_19 rfl (lv_at hl 0 rfl) ?_
  exact W.iret (v := 34) hx hb hr (fun t ht hW => ⟨⟨34, (v, cB, 16, f, ml, (nI cn)), rfl, ⟨rfl, rfl⟩, sB.of ht hW hP hK hne hv hF⟩, hS.F ht⟩) hS.2.2 dJ8_newLength_cabcc_20
set_option maxHeartbeats 4000000 in
set_option maxRecDepth 100000 in
theorem s_J5_newCapacity_0f7a4 (l : Launch) (dC : Nat → ClassId) (dI : Nat → Nat → Nat) (ad : Nat → Nat) (E : EP) (hEE : EC ad E) (a v : Nat) (cB : ClassId) (f : Nat → Int32) (ml : Int32) (cn sz : Nat) (va : Nat) (hne : a ≠ v) (hF : sb_Fit f) (hcn : cn ≤ 16) (hlva : 17 ≤ va) (hva : va < 35) : Met l yJ5_newCapacity_0f7a4 wsJ5_newCapacity_0f7a4 ({ frames := 2, cells := 0, slots := 0, locals := 44 }) (va_Pc [.ref a, .int (nI va)] (sPre E dC dI a v cB 16 f ml (nI cn) sz)) (va_Qi (fun (r : Int32) (x : SU) => x = (v, cB, 16, f, ml, nI cn) ∧ (r = 34)) (sB dC dI a v sz) (sA a v sz)) 0 0 (sA a v sz) := by
  refine Met.ofW (cc := cJ5_newCapacity_0f7a4) (maxL := 6) (ret := (some .int)) (by decide) rfl ?_
  intro p e s m args below meth c s₁ B hml hv
  obtain ⟨rfl, hsz, hP, hK, hE⟩ := hv
  have hx := B.exec
  have hb := B.bytes
  have hr := B.returns
  have hts := atoms_spec (ws := wsJ5_newCapacity_0f7a4) B.pre
  have hown : s.vm.findClass RJ5 = some m.cls := findClass_of_methodNamed B.named
  subst hsz
  have hEv := hEE.1 _ _ _ hE
  have hS : va_S (sA a v s.heap.size) s.heap s.heap [] := va_S.rf
  have hv : v = v ∨ s.heap.size ≤ v := Or.inl rfl
  have hl := lv_entry ([.ref a, .int (nI va)]) (n := 6) (Nat.le_of_ble_eq_true rfl)
  rw [lg_entry_eq]
  generalize (lg_sl ([.ref a, .int (nI va)]) ++ List.replicate (6 - (lg_sl ([.ref a, .int (nI va)])).length) Slot.unset).toArray = ls at hl ⊢
  have hl : lv_has ls 6 [(0, .ref a), (1, .int (nI va))] := hl
  refine lv_aload_n hx hb dJ5_newCapacity_0f7a4_0 rfl (lv_at hl 0 rfl) ?_
  refine va_get (D := (dC, dI)) (ci := 0) (v := .ref v) (C := RJ4) (T := TJ4) (N := 4) hx hb hts ii_J5_newCapacity_0f7a4_J4 hown hK hP 0 rfl rfl 0 (by decide) (hts _ mm_J5_newCapacity_0f7a4_1) (fun _ hh => hh) rfl dJ5_newCapacity_0f7a4_1 ?_
  refine va_alen (v := 16) hx hb hK hP 1 0 rfl rfl rfl dJ5_newCapacity_0f7a4_4 ?_
  refine lv_istore_n (lv' := [(2, .int 16), (0, .ref a), (1, .int (nI va))]) hx hb dJ5_newCapacity_0f7a4_5 rfl hl (by decide) rfl (fun ls hl => ?_)
  refine lv_iload_n hx hb dJ5_newCapacity_0f7a4_6 rfl (lv_at hl 2 rfl) ?_
  refine lv_aload_n hx hb dJ5_newCapacity_0f7a4_7 rfl (lv_at hl 1 rfl) ?_
  refine va_get (D := (dC, dI)) (ci := 0) (v := .int 0) (C := RJ4) (T := TJ4) (N := 4) hx hb hts ii_J5_newCapacity_0f7a4_J4 hown hK hP 0 rfl rfl 1 (by decide) (hts _ mm_J5_newCapacity_0f7a4_2) (fun _ hh => hh) rfl dJ5_newCapacity_0f7a4_8 ?_
  refine lv_ishl hx hb dJ5_newCapacity_0f7a4_11 ?_
  refine zz_top (v := (nI va)) (sb_shl0 _) ?_
  refine lv_istore_n (lv' := [(3, .int (nI va)), (2, .int 16), (0, .ref a), (1, .int (nI va))]) hx hb dJ5_newCapacity_0f7a4_12 rfl hl (by decide) rfl (fun ls hl => ?_)
  refine lv_iload_n hx hb dJ5_newCapacity_0f7a4_13 rfl (lv_at hl 0 rfl) ?_
  refine lv_iload_n hx hb dJ5_newCapacity_0f7a4_14 rfl (lv_at hl 1 rfl) ?_
  refine lv_isub hx hb dJ5_newCapacity_0f7a4_15 ?_
  refine zz_top (v := nI (va - 16)) (nI_subN (a := va) (b := 16) (by omega) (by omega)) ?_
  refine lv_istore (lv' := [(4, .int (nI (va - 16))), (3, .int (nI va)), (2, .int 16), (0, .ref a), (1, .int (nI va))]) hx hb dJ5_newCapacity_0f7a4_16 hl (by decide) rfl (fun ls hl => ?_)
  refine lv_iload_n hx hb dJ5_newCapacity_0f7a4_18 rfl (lv_at hl 2 rfl) ?_
  refine lv_iload hx hb dJ5_newCapacity_0f7a4_19 (lv_at hl 0 rfl) ?_
  refine lv_iload_n hx hb dJ5_newCapacity_0f7a4_21 rfl (lv_at hl 2 rfl) ?_
  refine lv_iconst (v := 2) hx hb dJ5_newCapacity_0f7a4_22 (by decide) ?_
  refine lv_aload_n hx hb dJ5_newCapacity_0f7a4_23 rfl (lv_at hl 3 rfl) ?_
  refine va_get (D := (dC, dI)) (ci := 0) (v := .int 0) (C := RJ4) (T := TJ4) (N := 4) hx hb hts ii_J5_newCapacity_0f7a4_J4 hown hK hP 0 rfl rfl 1 (by decide) (hts _ mm_J5_newCapacity_0f7a4_2) (fun _ hh => hh) rfl dJ5_newCapacity_0f7a4_24 ?_
  refine lv_ishl hx hb dJ5_newCapacity_0f7a4_27 ?_
  refine zz_top (v := 2) (by decide) ?_
  refine lv_iadd hx hb dJ5_newCapacity_0f7a4_28 ?_
  refine zz_top (v := 18) (by decide) ?_
  refine va_calli (va_runS (As := [.int 16, .int (nI (va - 16)), .int 18]) (rest := []) ⟨hx, hb, hml, hown, hts⟩ (s_J8_newLength_cabcc l dC dI ad E hEE a v cB f ml cn _ (va - 16) hne hF (by omega) (by omega)) (va_cwS 3 hts gJ5_newCapacity_0f7a4_J8_newLength_cabcc rfl rfl rfl (by decide +kernel) ⟨Nat.le_of_ble_eq_true rfl, Nat.le_of_ble_eq_true rfl⟩) ⟨fun a U g mk q => ⟨q.1, sPre.blind hEE q.2⟩, fun U hU hW => ⟨rfl, sPre.of hEE hP hK hE hS (sA.le hv hS.1) hU hW⟩⟩ rfl rfl hl.1 rfl (lv_room (Nat.le_of_ble_eq_true rfl)) dJ5_newCapacity_0f7a4_29 ⟨Nat.le_of_ble_eq_true rfl, Nat.le_of_ble_eq_true rfl⟩) hS (fun q _ h => sA.le hv hS.1 q h) (sA.le hv hS.1) (fun r1 x t H locs ht hvm hw hB _ _ hS => ?_)
  obtain ⟨hP, hK2, hne2, hv2, hF2⟩ := hB
  rw [ht] at hP
  obtain ⟨rfl, hw⟩ := hw
  clear hK2 hne2 hv2 hF2 ht hvm
  have hP : va_P (dC, dI) vwCl (sw a v cB 16 f ml (nI cn)) _ := hP
  obtain rfl := hw
  refine lv_istore (lv' := [(5, .int 34), (4, .int (nI (va - 16))), (3, .int (nI va)), (2, .int 16), (0, .ref a), (1, .int (nI va))]) hx hb dJ5_newCapacity_0f7a4_32 hl (by decide) rfl (fun ls hl => ?_)
  refine lv_iload hx hb dJ5_newCapacity_0f7a4_34 (lv_at hl 0 rfl) ?_
  refine lv_ldc (v := 2147483647) hx hb hown (hts _ mm_J5_newCapacity_0f7a4_3) dJ5_newCapacity_0f7a4_36 ?_
  refine lv_icmp_ne (tgt := 51) hx hb dJ5_newCapacity_0f7a4_38 (by decide) (fun _ => ?_) (fun cc => absurd cc (by decide))
  refine lv_iload hx hb dJ5_newCapacity_0f7a4_51 (lv_at hl 0 rfl) ?_
  refine lv_aload_n hx hb dJ5_newCapacity_0f7a4_53 rfl (lv_at hl 4 rfl) ?_
  refine va_get (D := (dC, dI)) (ci := 0) (v := .int 0) (C := RJ4) (T := TJ4) (N := 4) hx hb hts ii_J5_newCapacity_0f7a4_J4 hown hK hP 0 rfl rfl 1 (by decide) (hts _ mm_J5_newCapacity_0f7a4_2) (fun _ hh => hh) rfl dJ5_newCapacity_0f7a4_54 ?_
  refine lv_ishr hx hb dJ5_newCapacity_0f7a4_57 ?_
  refine zz_top (v := 34) (by decide) ?_
  exact W.iret (v := 34) hx hb hr (fun t ht hW => ⟨⟨34, (v, cB, 16, f, ml, (nI cn)), rfl, ⟨rfl, rfl⟩, sB.of ht hW hP hK hne hv hF⟩, hS.F ht⟩) hS.2.2 dJ5_newCapacity_0f7a4_58
theorem mm_copyOf_arr : (.arrayClass .byte : Cond) ∈ wsJ7_copyOf_9075b := by decide +kernel
theorem mm_copyOf_min : (.methodLink RJ7 304 Lib.Math.min.name : Cond) ∈ wsJ7_copyOf_9075b := by decide +kernel
theorem mm_copyOf_mst : (.static Lib.Math.min.name : Cond) ∈ wsJ7_copyOf_9075b := by decide +kernel
theorem mm_copyOf_min2 : (.initialized "java/lang/Math" : Cond) ∈ wsJ7_copyOf_9075b := by decide +kernel
theorem mm_copyOf_mco : (.code Lib.Math.min.name Lib.Math.min.code 2 (some .int) : Cond) ∈ wsJ7_copyOf_9075b := by decide +kernel
theorem mm_copyOf_cp : (.methodLink RJ7 150 arraycopyName : Cond) ∈ wsJ7_copyOf_9075b := by decide +kernel
theorem mm_copyOf_nat : (.native arraycopyName : Cond) ∈ wsJ7_copyOf_9075b := by decide +kernel
theorem mm_copyOf_sta : (.static arraycopyName : Cond) ∈ wsJ7_copyOf_9075b := by decide +kernel
theorem mm_copyOf_sys : (.initialized "java/lang/System" : Cond) ∈ wsJ7_copyOf_9075b := by decide +kernel
set_option maxHeartbeats 4000000 in
theorem s_copyOf (l : Launch) (dC : Nat → ClassId) (dI : Nat → Nat → Nat) (ad : Nat → Nat) (E : EP) (hEE : EC ad E) (a v : Nat) (cB : ClassId) (f : Nat → Int32) (ml cn : Int32) (sz : Nat) (hne : a ≠ v) (hF : sb_Fit f) : Met l yJ7_copyOf_9075b wsJ7_copyOf_9075b ({ frames := 1, cells := 1, slots := 34, locals := 40 }) (va_Pc [.ref v, .int 34] (sPre E dC dI a v cB 16 f ml cn sz)) (va_Qr (fun (_ : ClassId × (Nat → Int32)) => True) (fun (x : ClassId × (Nat → Int32)) (r : Nat) (t : State) => va_P (dC, dI) vwCl (sw a v cB 16 f ml cn ++ [(r, .inl (x.1, 34, .inl x.2))]) t.heap ∧ va_K (dC, dI) vwCl [(cB, .byte), (x.1, .byte)] t ∧ va_D (sA a v sz) (sw a v cB 16 f ml cn ++ [(r, .inl (x.1, 34, .inl x.2))]) ∧ sz ≤ r ∧ sb_Fit x.2) (sA a v sz)) 1 34 (sA a v sz) := by
  refine Met.ofW (cc := cJ7_copyOf_9075b) (maxL := 3) (ret := (some (.array .byte))) (by decide) rfl ?_
  intro p e s m args below meth c s₁ B hml hv
  obtain ⟨rfl, hsz, hP, hK, hE⟩ := hv
  have hx := B.exec
  have hb := B.bytes
  have hr := B.returns
  have hts := atoms_spec (ws := wsJ7_copyOf_9075b) B.pre
  have hown : s.vm.findClass RJ7 = some m.cls := findClass_of_methodNamed B.named
  subst hsz
  have hS : va_S (sA a v s.heap.size) s.heap s.heap [] := va_S.rf
  have hD : va_D (sA a v s.heap.size) (sw a v cB 16 f ml cn) := sD hne (Or.inl rfl) _ _ _ _ _
  have hl := lv_entry ([.ref v, .int 34]) (n := 3) (Nat.le_of_ble_eq_true rfl)
  rw [lg_entry_eq]
  generalize (lg_sl ([.ref v, .int 34]) ++ List.replicate (3 - (lg_sl ([.ref v, .int 34])).length) Slot.unset).toArray = ls at hl ⊢
  have hl : lv_has ls 3 [(0, .ref v), (1, .int 34)] := hl
  refine lv_iload_n hx hb dJ7_copyOf_9075b_0 rfl (lv_at hl 1 rfl) ?_
  refine lv_aload_n hx hb dJ7_copyOf_9075b_1 rfl (lv_at hl 0 rfl) ?_
  refine va_alen (v := 16) hx hb hK hP 1 0 rfl rfl rfl dJ7_copyOf_9075b_2 ?_
  refine lv_icmp_ne (tgt := 14) hx hb dJ7_copyOf_9075b_3 (by decide) (fun _ => ?_) (fun cc => absurd cc (by decide))
  refine lv_iload_n hx hb dJ7_copyOf_9075b_14 rfl (lv_at hl 1 rfl) ?_
  refine va_newa (atype := .byte) (ty := .byte) (n := 34) (N' := 34) (a0 := (34, .inl (fun _ => 0))) hx hb (hts _ mm_copyOf_arr) rfl hK hP hD hS (fun q h => Or.inr (Or.inr h)) (fun _ => rfl) (by decide) (by decide) (Nat.le_of_ble_eq_true rfl) (Nat.le_of_ble_eq_true rfl) (Nat.le_of_ble_eq_true rfl) dJ7_copyOf_9075b_15 (fun q y H hK hP hD hS => ?_)
  have hK : va_K (dC, dI) vwCl [(cB, .byte), (y, .byte)] s := hK
  refine lv_astore_n (lv' := [(2, .ref q), (0, .ref v), (1, .int 34)]) hx hb dJ7_copyOf_9075b_17 rfl hl (by decide) rfl (fun ls hl => ?_)
  refine lv_aload_n hx hb dJ7_copyOf_9075b_18 rfl (lv_at hl 1 rfl) ?_
  refine lv_iconst (v := 0) hx hb dJ7_copyOf_9075b_19 (by decide) ?_
  refine lv_aload_n hx hb dJ7_copyOf_9075b_20 rfl (lv_at hl 0 rfl) ?_
  refine lv_iconst (v := 0) hx hb dJ7_copyOf_9075b_21 (by decide) ?_
  refine lv_aload_n hx hb dJ7_copyOf_9075b_22 rfl (lv_at hl 1 rfl) ?_
  refine va_alen (v := 16) hx hb hK hP 1 0 rfl rfl rfl dJ7_copyOf_9075b_23 ?_
  refine lv_iload_n hx hb dJ7_copyOf_9075b_24 rfl (lv_at hl 2 rfl) ?_
  refine va_mmin hx hb (by rw [hml]; exact hl.1.symm) hown (hts _ mm_copyOf_min) (hts _ mm_copyOf_mst) (hts _ mm_copyOf_min2) (hts _ mm_copyOf_mco) (Nat.le_of_ble_eq_true rfl) (Nat.le_of_ble_eq_true rfl) (Nat.le_of_ble_eq_true rfl) (Nat.le_of_ble_eq_true rfl) dJ7_copyOf_9075b_25 ?_
  refine zz_top (v := 16) (by decide) ?_
  refine va_copyi (ty := .byte) hx hb (by rw [hml]; exact hl.1.symm) hown (hts _ mm_copyOf_cp) (hts _ mm_copyOf_nat) (hts _ mm_copyOf_sta) (hts _ mm_copyOf_sys) hK hP hD hS 1 2 0 1 rfl rfl rfl rfl rfl (by decide) (by decide) (by decide) (by decide) (by decide) (fun i _ => hF _) (Nat.le_of_ble_eq_true rfl) (Nat.le_of_ble_eq_true rfl) dJ7_copyOf_9075b_28 (fun H locs hP hD hS => ?_)
  refine lv_aload_n hx hb dJ7_copyOf_9075b_31 rfl (lv_at hl 0 rfl) ?_
  have hq : s.heap.size ≤ q := by
    rcases hD.2 2 _ rfl with h | h | h
    · exact absurd (hD.1 2 0 _ _ rfl rfl h) (by decide)
    · exact absurd (hD.1 2 1 _ _ rfl rfl h) (by decide)
    · exact h
  exact W.aret (v := .ref q) hx hb hr (Or.inr ⟨_, rfl⟩) (Or.inr ⟨_, rfl⟩) (fun t ht hW => ⟨⟨(y, va_cpy f (fun _ => 0) 0 0 16), q, rfl, trivial, by rw [ht]; exact hP, va_K.moved hW.alike hK, hD, hq, sb_fitC hF sb_fit0⟩, hS.F ht⟩) hS.2.2 dJ7_copyOf_9075b_32
set_option maxHeartbeats 4000000 in
set_option maxRecDepth 100000 in
theorem s_ens1 (l : Launch) (dC : Nat → ClassId) (dI : Nat → Nat → Nat) (ad : Nat → Nat) (E : EP) (hEE : EC ad E) (a v : Nat) (cB : ClassId) (f : Nat → Int32) (ml : Int32) (cn sz : Nat) (va : Nat) (hne : a ≠ v) (hF : sb_Fit f) (hcn : cn ≤ 16) (hlva : 17 ≤ va) (hva : va < 35) : Met l yJ5_ensureCapacityInternal_d00df wsJ5_ensureCapacityInternal_d00df ({ frames := 3, cells := 1, slots := 34, locals := 69 }) (va_Pc [.ref a, .int (nI va)] (sPre E dC dI a v cB 16 f ml (nI cn) sz)) (va_Qv (fun (x : SU) => x.2.2.1 = 34 ∧ x.2.2.2.2.2 = nI (cn) ∧ cn ≤ x.2.2.1 ∧ (True)) (sB dC dI a v sz) (sA a v sz)) 1 34 (sA a v sz) := by
  refine Met.ofW (cc := cJ5_ensureCapacityInternal_d00df) (maxL := 3) (ret := none) (by decide) rfl ?_
  intro p e s m args below meth c s₁ B hml hv
  obtain ⟨rfl, hsz, hP, hK, hE⟩ := hv
  have hx := B.exec
  have hb := B.bytes
  have hr := B.returns
  have hts := atoms_spec (ws := wsJ5_ensureCapacityInternal_d00df) B.pre
  have hown : s.vm.findClass RJ5 = some m.cls := findClass_of_methodNamed B.named
  subst hsz
  have hEv := hEE.1 _ _ _ hE
  have hS : va_S (sA a v s.heap.size) s.heap s.heap [] := va_S.rf
  have hv : v = v ∨ s.heap.size ≤ v := Or.inl rfl
  have hl := lv_entry ([.ref a, .int (nI va)]) (n := 3) (Nat.le_of_ble_eq_true rfl)
  rw [lg_entry_eq]
  generalize (lg_sl ([.ref a, .int (nI va)]) ++ List.replicate (3 - (lg_sl ([.ref a, .int (nI va)])).length) Slot.unset).toArray = ls at hl ⊢
  have hl : lv_has ls 3 [(0, .ref a), (1, .int (nI va))] := hl
  refine lv_aload_n hx hb dJ5_ensureCapacityInternal_d00df_0 rfl (lv_at hl 0 rfl) ?_
  refine va_get (D := (dC, dI)) (ci := 0) (v := .ref v) (C := RJ4) (T := TJ4) (N := 4) hx hb hts ii_J5_ensureCapacityInternal_d00df_J4 hown hK hP 0 rfl rfl 0 (by decide) (hts _ mm_J5_ensureCapacityInternal_d00df_1) (fun _ hh => hh) rfl dJ5_ensureCapacityInternal_d00df_1 ?_
  refine va_alen (v := 16) hx hb hK hP 1 0 rfl rfl rfl dJ5_ensureCapacityInternal_d00df_4 ?_
  refine lv_aload_n hx hb dJ5_ensureCapacityInternal_d00df_5 rfl (lv_at hl 0 rfl) ?_
  refine va_get (D := (dC, dI)) (ci := 0) (v := .int 0) (C := RJ4) (T := TJ4) (N := 4) hx hb hts ii_J5_ensureCapacityInternal_d00df_J4 hown hK hP 0 rfl rfl 1 (by decide) (hts _ mm_J5_ensureCapacityInternal_d00df_2) (fun _ hh => hh) rfl dJ5_ensureCapacityInternal_d00df_6 ?_
  refine lv_ishr hx hb dJ5_ensureCapacityInternal_d00df_9 ?_
  refine zz_top (v := 16) (by decide) ?_
  refine lv_istore_n (lv' := [(2, .int 16), (0, .ref a), (1, .int (nI va))]) hx hb dJ5_ensureCapacityInternal_d00df_10 rfl hl (by decide) rfl (fun ls hl => ?_)
  refine lv_iload_n hx hb dJ5_ensureCapacityInternal_d00df_11 rfl (lv_at hl 2 rfl) ?_
  refine lv_iload_n hx hb dJ5_ensureCapacityInternal_d00df_12 rfl (lv_at hl 0 rfl) ?_
  refine lv_isub hx hb dJ5_ensureCapacityInternal_d00df_13 ?_
  refine zz_top (v := nI (va - 16)) (nI_subN (a := va) (b := 16) (by omega) (by omega)) ?_
  refine lv_if_le (tgt := 38) hx hb dJ5_ensureCapacityInternal_d00df_14 (by decide) (fun cc => absurd ((nI_leI (a := (va - 16)) (b := 0) (by omega) (by omega)).mp cc) (by omega)) (fun _ => ?_)
  refine lv_aload_n hx hb dJ5_ensureCapacityInternal_d00df_17 rfl (lv_at hl 1 rfl) ?_
  refine lv_aload_n hx hb dJ5_ensureCapacityInternal_d00df_18 rfl (lv_at hl 1 rfl) ?_
  refine va_get (D := (dC, dI)) (ci := 0) (v := .ref v) (C := RJ4) (T := TJ4) (N := 4) hx hb hts ii_J5_ensureCapacityInternal_d00df_J4 hown hK hP 0 rfl rfl 0 (by decide) (hts _ mm_J5_ensureCapacityInternal_d00df_1) (fun _ hh => hh) rfl dJ5_ensureCapacityInternal_d00df_19 ?_
  refine lv_aload_n hx hb dJ5_ensureCapacityInternal_d00df_22 rfl (lv_at hl 1 rfl) ?_
  refine lv_iload_n hx hb dJ5_ensureCapacityInternal_d00df_23 rfl (lv_at hl 2 rfl) ?_
  refine va_calli (va_runU (As := [.int (nI va)]) (rest := [.ref v, .ref a]) ⟨hx, hb, hml, hown, hts⟩ (s_J5_newCapacity_0f7a4 l dC dI ad E hEE a v cB f ml cn _ va hne hF (by omega) (by omega) (by omega)) (va_cwU 1 hts gJ5_ensureCapacityInternal_d00df_J5_newCapacity_0f7a4_u104J4 rfl rfl rfl rfl (by decide +kernel) ⟨Nat.le_of_ble_eq_true rfl, Nat.le_of_ble_eq_true rfl⟩) ⟨fun a U g mk q => ⟨q.1, sPre.blind hEE q.2⟩, va_recv hK hP (ci := 0) (q0 := 0) rfl rfl, fun U hU hW => ⟨rfl, sPre.of hEE hP hK hE hS (sA.le hv hS.1) hU hW⟩⟩ rfl rfl hl.1 rfl (lv_room (Nat.le_of_ble_eq_true rfl)) dJ5_ensureCapacityInternal_d00df_24 ⟨Nat.le_of_ble_eq_true rfl, Nat.le_of_ble_eq_true rfl⟩) hS (fun q _ h => sA.le hv hS.1 q h) (sA.le hv hS.1) (fun r1 x t H locs ht hvm hw hB _ _ hS => ?_)
  obtain ⟨hP, hK2, hne2, hv2, hF2⟩ := hB
  rw [ht] at hP
  obtain ⟨rfl, hw⟩ := hw
  clear hK2 hne2 hv2 hF2 ht hvm
  have hP : va_P (dC, dI) vwCl (sw a v cB 16 f ml (nI cn)) _ := hP
  obtain rfl := hw
  refine lv_aload_n hx hb dJ5_ensureCapacityInternal_d00df_27 rfl (lv_at hl 1 rfl) ?_
  refine va_get (D := (dC, dI)) (ci := 0) (v := .int 0) (C := RJ4) (T := TJ4) (N := 4) hx hb hts ii_J5_ensureCapacityInternal_d00df_J4 hown hK hP 0 rfl rfl 1 (by decide) (hts _ mm_J5_ensureCapacityInternal_d00df_2) (fun _ hh => hh) rfl dJ5_ensureCapacityInternal_d00df_28 ?_
  refine lv_ishl hx hb dJ5_ensureCapacityInternal_d00df_31 ?_
  refine zz_top (v := 34) (by decide) ?_
  have hS0 := hS
  refine va_callr (va_runS (As := [.ref v, .int 34]) (rest := [.ref a]) ⟨hx, hb, hml, hown, hts⟩ (s_copyOf l dC dI ad E hEE a v cB f ml ((nI cn)) _ hne hF) (va_cwS 2 hts gJ5_ensureCapacityInternal_d00df_J7_copyOf_9075b rfl rfl rfl (by decide +kernel) ⟨Nat.le_of_ble_eq_true rfl, Nat.le_of_ble_eq_true rfl⟩) ⟨fun a U g mk q => ⟨q.1, sPre.blind hEE q.2⟩, fun U hU hW => ⟨rfl, sPre.of hEE hP hK hE hS (sA.le hv hS.1) hU hW⟩⟩ rfl rfl hl.1 rfl (lv_room (Nat.le_of_ble_eq_true rfl)) dJ5_ensureCapacityInternal_d00df_32 ⟨Nat.le_of_ble_eq_true rfl, Nat.le_of_ble_eq_true rfl⟩) hS (fun q _ h => sA.le hv hS.1 q h) (sA.le hv hS.1) (fun x q9 t H locs ht hvm hw hB _ _ hS => ?_)
  obtain ⟨c9, f9⟩ := x
  obtain ⟨hP, hK3, hD3, hq3, hF3⟩ := hB
  dsimp only at hP hK3 hD3 hF3
  rw [ht] at hP
  have hK3 := va_K.moved hvm.symm hK3
  have hne3 : a ≠ q9 := fun h9 => absurd (hD3.1 0 2 _ _ rfl rfl h9) (by decide)
  have hD3 : va_D (sA a v s.heap.size) _ := ⟨hD3.1, fun k9 q8 h8 => sA.le hv hS0.1 _ (hD3.2 k9 q8 h8)⟩
  refine va_put (D := (dC, dI)) (ci := 0) (v := .ref q9) (ty := .array .byte) (C := RJ4) (T := TJ4) (N := 4) hx hb hts ii_J5_ensureCapacityInternal_d00df_J4 tyJ4 tyJ4_ok nmJ4 hown hK3 hP hD3 hS 0 rfl rfl 0 (by decide) (hts _ mm_J5_ensureCapacityInternal_d00df_1) (fun _ hh => hh) rfl (by decide +kernel) rfl rfl (Nat.le_of_ble_eq_true rfl) dJ5_ensureCapacityInternal_d00df_35 (fun H locs hP _ hS => ?_)
  have hP : va_P (dC, dI) vwCl (sw a q9 c9 34 f9 ml (nI cn)) H := hP.sub [0, 2] rfl
  have hK : va_K (dC, dI) vwCl [(c9, .byte)] s := hK3.sub [1] rfl
  have hne := hne3
  have hv : q9 = v ∨ s.heap.size ≤ q9 := Or.inr (Nat.le_trans hS0.1 hq3)
  have hF := hF3
  exact W.vret hx hb hr (fun t ht hW => ⟨⟨(q9, c9, 34, f9, ml, (nI cn)), rfl, ⟨by show 34 = 34; omega, congrArg nI (show cn = cn by omega), by show cn ≤ 34; omega, trivial⟩, sB.of ht hW hP hK hne hv hF⟩, hS.F ht⟩) hS.2.2 dJ5_ensureCapacityInternal_d00df_38
set_option maxHeartbeats 4000000 in
set_option maxRecDepth 100000 in
theorem s_J0_getBytes_840e7 (l : Launch) (dC : Nat → ClassId) (dI : Nat → Nat → Nat) (ad : Nat → Nat) (E : EP) (hEE : EC ad E) (a v : Nat) (cB : ClassId) (nb : Nat) (f : Nat → Int32) (ml : Int32) (cn sz : Nat) (si : Nat) (va : Nat) (hne : a ≠ v) (hF : sb_Fit f) (hnb : nb = 16 ∨ nb = 34) (hcn : cn ≤ nb) (hsi : si < 30) (hva : va < 35) (hgb : va + sv_len.getD si 0 ≤ nb) : Met l yJ0_getBytes_840e7 wsJ0_getBytes_840e7 ({ frames := 1, cells := 0, slots := 0, locals := 60 }) (va_Pc [.ref (ad (100 + si)), .ref v, .int (nI va), .int 0] (sPre E dC dI a v cB nb f ml (nI cn) sz)) (va_Qv (fun (x : SU) => v = x.1 ∧ cB = x.2.1 ∧ nb = x.2.2.1 ∧ x.2.2.2.2.2 = nI (cn) ∧ (True)) (sB dC dI a v sz) (sA a v sz)) 0 0 (sA a v sz) := by
  refine Met.ofW (cc := cJ0_getBytes_840e7) (maxL := 4) (ret := none) (by decide) rfl ?_
  intro p e s m args below meth c s₁ B hml hv
  obtain ⟨rfl, hsz, hP, hK, hE⟩ := hv
  have hx := B.exec
  have hb := B.bytes
  have hr := B.returns
  have hts := atoms_spec (ws := wsJ0_getBytes_840e7) B.pre
  have hown : s.vm.findClass RJ0 = some m.cls := findClass_of_methodNamed B.named
  subst hsz
  have hEv := hEE.1 _ _ _ hE
  have hS : va_S (sA a v s.heap.size) s.heap s.heap [] := va_S.rf
  have hv : v = v ∨ s.heap.size ≤ v := Or.inl rfl
  have hl := lv_entry ([.ref (ad (100 + si)), .ref v, .int (nI va), .int 0]) (n := 4) (Nat.le_of_ble_eq_true rfl)
  rw [lg_entry_eq]
  generalize (lg_sl ([.ref (ad (100 + si)), .ref v, .int (nI va), .int 0]) ++ List.replicate (4 - (lg_sl ([.ref (ad (100 + si)), .ref v, .int (nI va), .int 0])).length) Slot.unset).toArray = ls at hl ⊢
  have hl : lv_has ls 4 [(0, .ref (ad (100 + si))), (1, .ref v), (2, .int (nI va)), (3, .int 0)] := hl
  refine lv_aload_n hx hb dJ0_getBytes_840e7_0 rfl (lv_at hl 0 rfl) ?_
  refine va_calli (va_runV (As := []) (rest := []) ⟨hx, hb, hml, hown, hts⟩ (s_J0_coder_7d493 l dC dI ad E hEE a v cB nb f ml cn _ si hne hF (by omega) (by omega) (by omega)) (cwV 0 hts gJ0_getBytes_840e7_J0_coder_7d493 rfl rfl rfl (by decide +kernel) ⟨Nat.le_of_ble_eq_true rfl, Nat.le_of_ble_eq_true rfl⟩) ⟨fun a U g mk q => ⟨q.1, sPre.blind hEE q.2⟩, SV.recv hEv.sv hS (i := si) (by omega), fun U hU hW => ⟨rfl, sPre.of hEE hP hK hE hS (sA.le hv hS.1) hU hW⟩⟩ rfl rfl hl.1 rfl (lv_room (Nat.le_of_ble_eq_true rfl)) dJ0_getBytes_840e7_1 ⟨Nat.le_of_ble_eq_true rfl, Nat.le_of_ble_eq_true rfl⟩) hS (fun q _ h => sA.le hv hS.1 q h) (sA.le hv hS.1) (fun r1 x t H locs ht hvm hw hB _ _ hS => ?_)
  obtain ⟨hP, hK2, hne2, hv2, hF2⟩ := hB
  rw [ht] at hP
  obtain ⟨rfl, hw⟩ := hw
  clear hK2 hne2 hv2 hF2 ht hvm
  have hP : va_P (dC, dI) vwCl (sw a v cB nb f ml (nI cn)) _ := hP
  obtain rfl := hw
  refine lv_iload_n hx hb dJ0_getBytes_840e7_4 rfl (lv_at hl 3 rfl) ?_
  refine lv_icmp_ne (tgt := 28) hx hb dJ0_getBytes_840e7_5 (by decide) (fun cc => absurd (by decide) cc) (fun _ => ?_)
  refine lv_aload_n hx hb dJ0_getBytes_840e7_8 rfl (lv_at hl 0 rfl) ?_
  refine vk_getf (v := .ref (ad (200 + si))) hx hb (hEv.sv.2.1 si (by omega)).2.2.1 hS hown (hts _ mm_J0_getBytes_840e7_1) (fun _ hh => hh) dJ0_getBytes_840e7_9 ?_
  refine lv_iconst (v := 0) hx hb dJ0_getBytes_840e7_12 (by decide) ?_
  refine lv_aload_n hx hb dJ0_getBytes_840e7_13 rfl (lv_at hl 1 rfl) ?_
  refine lv_iload_n hx hb dJ0_getBytes_840e7_14 rfl (lv_at hl 2 rfl) ?_
  refine lv_iload_n hx hb dJ0_getBytes_840e7_15 rfl (lv_at hl 3 rfl) ?_
  refine lv_ishl hx hb dJ0_getBytes_840e7_16 ?_
  refine zz_top (v := (nI va)) (sb_shl0 _) ?_
  refine lv_aload_n hx hb dJ0_getBytes_840e7_17 rfl (lv_at hl 0 rfl) ?_
  refine vk_getf (v := .ref (ad (200 + si))) hx hb (hEv.sv.2.1 si (by omega)).2.2.1 hS hown (hts _ mm_J0_getBytes_840e7_1) (fun _ hh => hh) dJ0_getBytes_840e7_18 ?_
  refine va_tlen (v := nI (sv_len.getD si 0)) hx hb (hEv.sv.2.1 si (by omega)).2.2.2 hS rfl dJ0_getBytes_840e7_21 ?_
  have hql2 := sv_lt si
  refine vk_copyt (b0 := ad (200 + si)) (n0 := sv_len.getD si 0) (f := fun j9 => (sv_byt.getD si []).getD j9 0) hx hb (by rw [hml]; exact hl.1.symm) hown (hts _ mm_J0_getBytes_840e7_2) (hts _ mm_J0_getBytes_840e7_3) (hts _ mm_J0_getBytes_840e7_4) (hts _ mm_J0_getBytes_840e7_5) hK hP (sD hne hv _ _ _ _ _) hS (hEv.sv.2.1 si (by omega)).2.2.2 1 0 rfl rfl (sp := 0) (dp := (nI va)) (n := (nI (sv_len.getD si 0))) (by decide) (nI_pos (by omega)) (nI_pos (by omega)) (by rw [nI_clamp (by omega)]; show 0 + _ ≤ _; omega) (by rw [nI_clamp (by omega), nI_clamp (by omega)]; omega) (fun i9 _ => sv_fit _ _ (by omega)) (Nat.le_of_ble_eq_true rfl) (Nat.le_of_ble_eq_true rfl) dJ0_getBytes_840e7_22 (fun H locs hP _ hS => ?_)
  obtain ⟨f3, ef3⟩ : ∃ y, y = va_cpy (fun j9 => (sv_byt.getD si []).getD j9 0) f (0 : Int32).toNatClampNeg ((nI va)).toNatClampNeg ((nI (sv_len.getD si 0))).toNatClampNeg := ⟨_, rfl⟩
  have hF : sb_Fit f3 := by rw [ef3]; exact sb_fitC (fun j9 => sv_fit _ _ (by omega)) hF
  have hP : va_P (dC, dI) vwCl (sw a v cB nb f3 ml (nI cn)) H := by rw [ef3]; exact hP
  clear ef3
  refine lv_goto (tgt := 43) hx hb dJ0_getBytes_840e7_25 (by decide) ?_
  exact W.vret hx hb hr (fun t ht hW => ⟨⟨(v, cB, nb, f3, ml, (nI cn)), rfl, ⟨rfl, rfl, rfl, congrArg nI (show cn = cn by omega), trivial⟩, sB.of ht hW hP hK hne hv hF⟩, hS.F ht⟩) hS.2.2 dJ0_getBytes_840e7_43
set_option maxHeartbeats 4000000 in
set_option maxRecDepth 100000 in
theorem s_J5_inflateIfNeededFor_a7421 (l : Launch) (dC : Nat → ClassId) (dI : Nat → Nat → Nat) (ad : Nat → Nat) (E : EP) (hEE : EC ad E) (a v : Nat) (cB : ClassId) (nb : Nat) (f : Nat → Int32) (ml : Int32) (cn sz : Nat) (si : Nat) (hne : a ≠ v) (hF : sb_Fit f) (hnb : nb = 16 ∨ nb = 34) (hcn : cn ≤ nb) (hsi : si < 30) : Met l yJ5_inflateIfNeededFor_a7421 wsJ5_inflateIfNeededFor_a7421 ({ frames := 1, cells := 0, slots := 0, locals := 20 }) (va_Pc [.ref a, .ref (ad (100 + si))] (sPre E dC dI a v cB nb f ml (nI cn) sz)) (va_Qv (fun (x : SU) => x = (v, cB, nb, f, ml, nI cn) ∧ (True)) (sB dC dI a v sz) (sA a v sz)) 0 0 (sA a v sz) := by
  refine Met.ofW (cc := cJ5_inflateIfNeededFor_a7421) (maxL := 2) (ret := none) (by decide) rfl ?_
  intro p e s m args below meth c s₁ B hml hv
  obtain ⟨rfl, hsz, hP, hK, hE⟩ := hv
  have hx := B.exec
  have hb := B.bytes
  have hr := B.returns
  have hts := atoms_spec (ws := wsJ5_inflateIfNeededFor_a7421) B.pre
  have hown : s.vm.findClass RJ5 = some m.cls := findClass_of_methodNamed B.named
  subst hsz
  have hEv := hEE.1 _ _ _ hE
  have hS : va_S (sA a v s.heap.size) s.heap s.heap [] := va_S.rf
  have hv : v = v ∨ s.heap.size ≤ v := Or.inl rfl
  have hl := lv_entry ([.ref a, .ref (ad (100 + si))]) (n := 2) (Nat.le_of_ble_eq_true rfl)
  rw [lg_entry_eq]
  generalize (lg_sl ([.ref a, .ref (ad (100 + si))]) ++ List.replicate (2 - (lg_sl ([.ref a, .ref (ad (100 + si))])).length) Slot.unset).toArray = ls at hl ⊢
  have hl : lv_has ls 2 [(0, .ref a), (1, .ref (ad (100 + si)))] := hl
  refine va_gets (v := .int 1) hx hb (EV.compact hEv) hS hown (hts _ mm_J5_inflateIfNeededFor_a7421_1) (fun _ hh => hh) dJ5_inflateIfNeededFor_a7421_0 ?_
  refine lv_if_eq (tgt := 21) hx hb dJ5_inflateIfNeededFor_a7421_3 (by decide) (fun cc => absurd cc (by decide)) (fun _ => ?_)
  refine lv_aload_n hx hb dJ5_inflateIfNeededFor_a7421_6 rfl (lv_at hl 0 rfl) ?_
  refine va_get (D := (dC, dI)) (ci := 0) (v := .int 0) (C := RJ4) (T := TJ4) (N := 4) hx hb hts ii_J5_inflateIfNeededFor_a7421_J4 hown hK hP 0 rfl rfl 1 (by decide) (hts _ mm_J5_inflateIfNeededFor_a7421_2) (fun _ hh => hh) rfl dJ5_inflateIfNeededFor_a7421_7 ?_
  refine lv_aload_n hx hb dJ5_inflateIfNeededFor_a7421_10 rfl (lv_at hl 1 rfl) ?_
  refine va_calli (va_runV (As := []) (rest := [.int 0]) ⟨hx, hb, hml, hown, hts⟩ (s_J0_coder_7d493 l dC dI ad E hEE a v cB nb f ml cn _ si hne hF (by omega) (by omega) (by omega)) (cwV 0 hts gJ5_inflateIfNeededFor_a7421_J0_coder_7d493 rfl rfl rfl (by decide +kernel) ⟨Nat.le_of_ble_eq_true rfl, Nat.le_of_ble_eq_true rfl⟩) ⟨fun a U g mk q => ⟨q.1, sPre.blind hEE q.2⟩, SV.recv hEv.sv hS (i := si) (by omega), fun U hU hW => ⟨rfl, sPre.of hEE hP hK hE hS (sA.le hv hS.1) hU hW⟩⟩ rfl rfl hl.1 rfl (lv_room (Nat.le_of_ble_eq_true rfl)) dJ5_inflateIfNeededFor_a7421_11 ⟨Nat.le_of_ble_eq_true rfl, Nat.le_of_ble_eq_true rfl⟩) hS (fun q _ h => sA.le hv hS.1 q h) (sA.le hv hS.1) (fun r1 x t H locs ht hvm hw hB _ _ hS => ?_)
  obtain ⟨hP, hK2, hne2, hv2, hF2⟩ := hB
  rw [ht] at hP
  obtain ⟨rfl, hw⟩ := hw
  clear hK2 hne2 hv2 hF2 ht hvm
  have hP : va_P (dC, dI) vwCl (sw a v cB nb f ml (nI cn)) _ := hP
  obtain rfl := hw
  refine lv_icmp_eq (tgt := 21) hx hb dJ5_inflateIfNeededFor_a7421_14 (by decide) (fun _ => ?_) (fun cc => absurd (by decide) cc)
  exact W.vret hx hb hr (fun t ht hW => ⟨⟨(v, cB, nb, f, ml, (nI cn)), rfl, ⟨rfl, trivial⟩, sB.of ht hW hP hK hne hv hF⟩, hS.F ht⟩) hS.2.2 dJ5_inflateIfNeededFor_a7421_21
set_option maxHeartbeats 4000000 in
set_option maxRecDepth 100000 in
theorem s_J5_putStringAt_47b60 (l : Launch) (dC : Nat → ClassId) (dI : Nat → Nat → Nat) (ad : Nat → Nat) (E : EP) (hEE : EC ad E) (a v : Nat) (cB : ClassId) (nb : Nat) (f : Nat → Int32) (ml : Int32) (cn sz : Nat) (va : Nat) (si : Nat) (hne : a ≠ v) (hF : sb_Fit f) (hnb : nb = 16 ∨ nb = 34) (hcn : cn ≤ nb) (hva : va < 35) (hsi : si < 30) (hgb : va + sv_len.getD si 0 ≤ nb) : Met l yJ5_putStringAt_47b60 wsJ5_putStringAt_47b60 ({ frames := 2, cells := 0, slots := 0, locals := 83 }) (va_Pc [.ref a, .int (nI va), .ref (ad (100 + si))] (sPre E dC dI a v cB nb f ml (nI cn) sz)) (va_Qv (fun (x : SU) => v = x.1 ∧ cB = x.2.1 ∧ nb = x.2.2.1 ∧ x.2.2.2.2.2 = nI (cn) ∧ (True)) (sB dC dI a v sz) (sA a v sz)) 0 0 (sA a v sz) := by
  refine Met.ofW (cc := cJ5_putStringAt_47b60) (maxL := 3) (ret := none) (by decide) rfl ?_
  intro p e s m args below meth c s₁ B hml hv
  obtain ⟨rfl, hsz, hP, hK, hE⟩ := hv
  have hx := B.exec
  have hb := B.bytes
  have hr := B.returns
  have hts := atoms_spec (ws := wsJ5_putStringAt_47b60) B.pre
  have hown : s.vm.findClass RJ5 = some m.cls := findClass_of_methodNamed B.named
  subst hsz
  have hEv := hEE.1 _ _ _ hE
  have hS : va_S (sA a v s.heap.size) s.heap s.heap [] := va_S.rf
  have hv : v = v ∨ s.heap.size ≤ v := Or.inl rfl
  have hl := lv_entry ([.ref a, .int (nI va), .ref (ad (100 + si))]) (n := 3) (Nat.le_of_ble_eq_true rfl)
  rw [lg_entry_eq]
  generalize (lg_sl ([.ref a, .int (nI va), .ref (ad (100 + si))]) ++ List.replicate (3 - (lg_sl ([.ref a, .int (nI va), .ref (ad (100 + si))])).length) Slot.unset).toArray = ls at hl ⊢
  have hl : lv_has ls 3 [(0, .ref a), (1, .int (nI va)), (2, .ref (ad (100 + si)))] := hl
  refine lv_aload_n hx hb dJ5_putStringAt_47b60_0 rfl (lv_at hl 0 rfl) ?_
  refine lv_aload_n hx hb dJ5_putStringAt_47b60_1 rfl (lv_at hl 2 rfl) ?_
  refine va_callv (va_runU (As := [.ref (ad (100 + si))]) (rest := []) ⟨hx, hb, hml, hown, hts⟩ (s_J5_inflateIfNeededFor_a7421 l dC dI ad E hEE a v cB nb f ml cn _ si hne hF (by omega) (by omega) (by omega)) (va_cwU 1 hts gJ5_putStringAt_47b60_J5_inflateIfNeededFor_a7421_u397J4 rfl rfl rfl rfl (by decide +kernel) ⟨Nat.le_of_ble_eq_true rfl, Nat.le_of_ble_eq_true rfl⟩) ⟨fun a U g mk q => ⟨q.1, sPre.blind hEE q.2⟩, va_recv hK hP (ci := 0) (q0 := 0) rfl rfl, fun U hU hW => ⟨rfl, sPre.of hEE hP hK hE hS (sA.le hv hS.1) hU hW⟩⟩ rfl rfl hl.1 rfl (lv_room (Nat.le_of_ble_eq_true rfl)) dJ5_putStringAt_47b60_2 ⟨Nat.le_of_ble_eq_true rfl, Nat.le_of_ble_eq_true rfl⟩) hS (fun q _ h => sA.le hv hS.1 q h) (sA.le hv hS.1) (fun x t H locs ht hvm hw hB _ _ hS => ?_)
  obtain ⟨hP, hK2, hne2, hv2, hF2⟩ := hB
  rw [ht] at hP
  obtain ⟨rfl, hw⟩ := hw
  clear hK2 hne2 hv2 hF2 ht hvm
  have hP : va_P (dC, dI) vwCl (sw a v cB nb f ml (nI cn)) _ := hP
  clear hw
  refine lv_aload_n hx hb dJ5_putStringAt_47b60_5 rfl (lv_at hl 2 rfl) ?_
  refine lv_aload_n hx hb dJ5_putStringAt_47b60_6 rfl (lv_at hl 0 rfl) ?_
  refine va_get (D := (dC, dI)) (ci := 0) (v := .ref v) (C := RJ4) (T := TJ4) (N := 4) hx hb hts ii_J5_putStringAt_47b60_J4 hown hK hP 0 rfl rfl 0 (by decide) (hts _ mm_J5_putStringAt_47b60_1) (fun _ hh => hh) rfl dJ5_putStringAt_47b60_7 ?_
  refine lv_iload_n hx hb dJ5_putStringAt_47b60_10 rfl (lv_at hl 1 rfl) ?_
  refine lv_aload_n hx hb dJ5_putStringAt_47b60_11 rfl (lv_at hl 0 rfl) ?_
  refine va_get (D := (dC, dI)) (ci := 0) (v := .int 0) (C := RJ4) (T := TJ4) (N := 4) hx hb hts ii_J5_putStringAt_47b60_J4 hown hK hP 0 rfl rfl 1 (by decide) (hts _ mm_J5_putStringAt_47b60_2) (fun _ hh => hh) rfl dJ5_putStringAt_47b60_12 ?_
  refine va_callv (va_runV (As := [.ref v, .int (nI va), .int 0]) (rest := []) ⟨hx, hb, hml, hown, hts⟩ (s_J0_getBytes_840e7 l dC dI ad E hEE a v cB nb f ml cn _ si va hne hF (by omega) (by omega) (by omega) (by omega) (by omega)) (cwV 3 hts gJ5_putStringAt_47b60_J0_getBytes_840e7 rfl rfl rfl (by decide +kernel) ⟨Nat.le_of_ble_eq_true rfl, Nat.le_of_ble_eq_true rfl⟩) ⟨fun a U g mk q => ⟨q.1, sPre.blind hEE q.2⟩, SV.recv hEv.sv hS (i := si) (by omega), fun U hU hW => ⟨rfl, sPre.of hEE hP hK hE hS (sA.le hv hS.1) hU hW⟩⟩ rfl rfl hl.1 rfl (lv_room (Nat.le_of_ble_eq_true rfl)) dJ5_putStringAt_47b60_15 ⟨Nat.le_of_ble_eq_true rfl, Nat.le_of_ble_eq_true rfl⟩) hS (fun q _ h => sA.le hv hS.1 q h) (sA.le hv hS.1) (fun x t H locs ht hvm hw hB _ _ hS => ?_)
  obtain ⟨hP, hK2, hne2, hv2, hF2⟩ := hB
  rw [ht] at hP
  obtain ⟨v3, cB4, nb5, f6, ml7, cn8⟩ := x
  dsimp only at hP hK2 hne2 hv2 hF2 hw
  have hK := va_K.moved hvm.symm hK2
  obtain ⟨rfl, rfl, rfl, rfl, hw⟩ := hw
  have hF := hF2
  clear hK2 hne2 hv2 hF2 ht hvm
  have hP : va_P (dC, dI) vwCl (sw a v cB nb f6 ml7 (nI cn)) _ := hP
  clear hw
  exact W.vret hx hb hr (fun t ht hW => ⟨⟨(v, cB, nb, f6, ml7, (nI cn)), rfl, ⟨rfl, rfl, rfl, congrArg nI (show cn = cn by omega), trivial⟩, sB.of ht hW hP hK hne hv hF⟩, hS.F ht⟩) hS.2.2 dJ5_putStringAt_47b60_18
set_option maxHeartbeats 4000000 in
set_option maxRecDepth 100000 in
theorem s_J5_append_cf1ce (l : Launch) (dC : Nat → ClassId) (dI : Nat → Nat → Nat) (ad : Nat → Nat) (E : EP) (hEE : EC ad E) (a v : Nat) (cB : ClassId) (nb : Nat) (f : Nat → Int32) (ml : Int32) (cn sz : Nat) (si : Nat) (hne : a ≠ v) (hF : sb_Fit f) (hnb : nb = 16 ∨ nb = 34) (hcn : cn ≤ nb) (hsi : si < 30) (hlen : cn + sv_len.getD si 0 ≤ 34) : Met l yJ5_append_cf1ce wsJ5_append_cf1ce ({ frames := 4, cells := 1, slots := 34, locals := 105 }) (va_Pc [.ref a, .ref (ad (100 + si))] (sPre E dC dI a v cB nb f ml (nI cn) sz)) (va_Qr (fun (_ : SU) => True) (fun (x : SU) (r : Nat) (t : State) => ((x.2.2.1 = 16 ∨ x.2.2.1 = 34) ∧ x.2.2.2.2.2 = nI (cn + sv_len.getD si 0) ∧ cn + sv_len.getD si 0 ≤ x.2.2.1 ∧ (True)) ∧ r = a ∧ sB dC dI a v sz x t) (sA a v sz)) 1 34 (sA a v sz) := by
  refine Met.ofW (cc := cJ5_append_cf1ce) (maxL := 3) (ret := (some (.object "java/lang/AbstractStringBuilder"))) (by decide) rfl ?_
  intro p e s m args below meth c s₁ B hml hv
  obtain ⟨rfl, hsz, hP, hK, hE⟩ := hv
  have hx := B.exec
  have hb := B.bytes
  have hr := B.returns
  have hts := atoms_spec (ws := wsJ5_append_cf1ce) B.pre
  have hown : s.vm.findClass RJ5 = some m.cls := findClass_of_methodNamed B.named
  subst hsz
  have hEv := hEE.1 _ _ _ hE
  have hS : va_S (sA a v s.heap.size) s.heap s.heap [] := va_S.rf
  have hv : v = v ∨ s.heap.size ≤ v := Or.inl rfl
  have hl := lv_entry ([.ref a, .ref (ad (100 + si))]) (n := 3) (Nat.le_of_ble_eq_true rfl)
  rw [lg_entry_eq]
  generalize (lg_sl ([.ref a, .ref (ad (100 + si))]) ++ List.replicate (3 - (lg_sl ([.ref a, .ref (ad (100 + si))])).length) Slot.unset).toArray = ls at hl ⊢
  have hl : lv_has ls 3 [(0, .ref a), (1, .ref (ad (100 + si)))] := hl
  refine lv_aload_n hx hb dJ5_append_cf1ce_0 rfl (lv_at hl 1 rfl) ?_
  refine lv_ifnonnull (tgt := 9) hx hb dJ5_append_cf1ce_1 (by decide) ?_
  refine lv_aload_n hx hb dJ5_append_cf1ce_9 rfl (lv_at hl 1 rfl) ?_
  refine va_calli (va_runV (As := []) (rest := []) ⟨hx, hb, hml, hown, hts⟩ (s_J0_length_8abf5 l dC dI ad E hEE a v cB nb f ml cn _ si hne hF (by omega) (by omega) (by omega)) (cwV 0 hts gJ5_append_cf1ce_J0_length_8abf5 rfl rfl rfl (by decide +kernel) ⟨Nat.le_of_ble_eq_true rfl, Nat.le_of_ble_eq_true rfl⟩) ⟨fun a U g mk q => ⟨q.1, sPre.blind hEE q.2⟩, SV.recv hEv.sv hS (i := si) (by omega), fun U hU hW => ⟨rfl, sPre.of hEE hP hK hE hS (sA.le hv hS.1) hU hW⟩⟩ rfl rfl hl.1 rfl (lv_room (Nat.le_of_ble_eq_true rfl)) dJ5_append_cf1ce_10 ⟨Nat.le_of_ble_eq_true rfl, Nat.le_of_ble_eq_true rfl⟩) hS (fun q _ h => sA.le hv hS.1 q h) (sA.le hv hS.1) (fun r1 x t H locs ht hvm hw hB _ _ hS => ?_)
  obtain ⟨hP, hK2, hne2, hv2, hF2⟩ := hB
  rw [ht] at hP
  obtain ⟨rfl, hw⟩ := hw
  clear hK2 hne2 hv2 hF2 ht hvm
  have hP : va_P (dC, dI) vwCl (sw a v cB nb f ml (nI cn)) _ := hP
  obtain ⟨n2, rfl, hf3, hf4⟩ := hw
  refine lv_istore_n (lv' := [(2, .int (nI n2)), (0, .ref a), (1, .ref (ad (100 + si)))]) hx hb dJ5_append_cf1ce_13 rfl hl (by decide) rfl (fun ls hl => ?_)
  refine lv_aload_n hx hb dJ5_append_cf1ce_14 rfl (lv_at hl 1 rfl) ?_
  refine lv_aload_n hx hb dJ5_append_cf1ce_15 rfl (lv_at hl 1 rfl) ?_
  refine va_get (D := (dC, dI)) (ci := 0) (v := .int (nI cn)) (C := RJ4) (T := TJ4) (N := 4) hx hb hts ii_J5_append_cf1ce_J4 hown hK hP 0 rfl rfl 3 (by decide) (hts _ mm_J5_append_cf1ce_1) (fun _ hh => hh) rfl dJ5_append_cf1ce_16 ?_
  refine lv_iload_n hx hb dJ5_append_cf1ce_19 rfl (lv_at hl 0 rfl) ?_
  refine lv_iadd hx hb dJ5_append_cf1ce_20 ?_
  refine zz_top (v := nI (cn + n2)) (nI_add cn n2) ?_
  by_cases hgr : (cn + n2) ≤ nb
  · refine va_callv (va_runU (As := [.int (nI (cn + n2))]) (rest := []) ⟨hx, hb, hml, hown, hts⟩ (s_ens0 l dC dI ad E hEE a v cB nb f ml cn _ (cn + n2) hne hF (by omega) (by omega) (by omega) (by omega)) (va_cwU 1 hts gJ5_append_cf1ce_J5_ensureCapacityInternal_d00df_u100J4 rfl rfl rfl rfl (by decide +kernel) ⟨Nat.le_of_ble_eq_true rfl, Nat.le_of_ble_eq_true rfl⟩) ⟨fun a U g mk q => ⟨q.1, sPre.blind hEE q.2⟩, va_recv hK hP (ci := 0) (q0 := 0) rfl rfl, fun U hU hW => ⟨rfl, sPre.of hEE hP hK hE hS (sA.le hv hS.1) hU hW⟩⟩ rfl rfl hl.1 rfl (lv_room (Nat.le_of_ble_eq_true rfl)) dJ5_append_cf1ce_21 ⟨Nat.le_of_ble_eq_true rfl, Nat.le_of_ble_eq_true rfl⟩) hS (fun q _ h => sA.le hv hS.1 q h) (sA.le hv hS.1) (fun x t H locs ht hvm hw hB _ _ hS => ?_)
    obtain ⟨hP, hK2, hne2, hv2, hF2⟩ := hB
    rw [ht] at hP
    obtain ⟨rfl, hw⟩ := hw
    clear hK2 hne2 hv2 hF2 ht hvm
    have hP : va_P (dC, dI) vwCl (sw a v cB nb f ml (nI cn)) _ := hP
    clear hw
    refine lv_aload_n hx hb dJ5_append_cf1ce_24 rfl (lv_at hl 1 rfl) ?_
    refine lv_aload_n hx hb dJ5_append_cf1ce_25 rfl (lv_at hl 1 rfl) ?_
    refine va_get (D := (dC, dI)) (ci := 0) (v := .int (nI cn)) (C := RJ4) (T := TJ4) (N := 4) hx hb hts ii_J5_append_cf1ce_J4 hown hK hP 0 rfl rfl 3 (by decide) (hts _ mm_J5_append_cf1ce_1) (fun _ hh => hh) rfl dJ5_append_cf1ce_26 ?_
    refine lv_aload_n hx hb dJ5_append_cf1ce_29 rfl (lv_at hl 2 rfl) ?_
    refine va_callv (va_runU (As := [.int (nI cn), .ref (ad (100 + si))]) (rest := []) ⟨hx, hb, hml, hown, hts⟩ (s_J5_putStringAt_47b60 l dC dI ad E hEE a v cB nb f ml cn _ cn si hne hF (by omega) (by omega) (by omega) (by omega) (by omega)) (va_cwU 2 hts gJ5_append_cf1ce_J5_putStringAt_47b60_u208J4 rfl rfl rfl rfl (by decide +kernel) ⟨Nat.le_of_ble_eq_true rfl, Nat.le_of_ble_eq_true rfl⟩) ⟨fun a U g mk q => ⟨q.1, sPre.blind hEE q.2⟩, va_recv hK hP (ci := 0) (q0 := 0) rfl rfl, fun U hU hW => ⟨rfl, sPre.of hEE hP hK hE hS (sA.le hv hS.1) hU hW⟩⟩ rfl rfl hl.1 rfl (lv_room (Nat.le_of_ble_eq_true rfl)) dJ5_append_cf1ce_30 ⟨Nat.le_of_ble_eq_true rfl, Nat.le_of_ble_eq_true rfl⟩) hS (fun q _ h => sA.le hv hS.1 q h) (sA.le hv hS.1) (fun x t H locs ht hvm hw hB _ _ hS => ?_)
    obtain ⟨hP, hK2, hne2, hv2, hF2⟩ := hB
    rw [ht] at hP
    obtain ⟨v7, cB8, nb9, f10, ml11, cn12⟩ := x
    dsimp only at hP hK2 hne2 hv2 hF2 hw
    have hK := va_K.moved hvm.symm hK2
    obtain ⟨rfl, rfl, rfl, rfl, hw⟩ := hw
    have hF := hF2
    clear hK2 hne2 hv2 hF2 ht hvm
    have hP : va_P (dC, dI) vwCl (sw a v cB nb f10 ml11 (nI cn)) _ := hP
    clear hw
    refine lv_aload_n hx hb dJ5_append_cf1ce_33 rfl (lv_at hl 1 rfl) ?_
    refine lv_dup hx hb dJ5_append_cf1ce_34 rfl ?_
    refine va_get (D := (dC, dI)) (ci := 0) (v := .int (nI cn)) (C := RJ4) (T := TJ4) (N := 4) hx hb hts ii_J5_append_cf1ce_J4 hown hK hP 0 rfl rfl 3 (by decide) (hts _ mm_J5_append_cf1ce_1) (fun _ hh => hh) rfl dJ5_append_cf1ce_35 ?_
    refine lv_iload_n hx hb dJ5_append_cf1ce_38 rfl (lv_at hl 0 rfl) ?_
    refine lv_iadd hx hb dJ5_append_cf1ce_39 ?_
    refine zz_top (v := nI (cn + n2)) (nI_add cn n2) ?_
    refine va_put (D := (dC, dI)) (ci := 0) (v := .int (nI (cn + n2))) (ty := .int) (C := RJ4) (T := TJ4) (N := 4) hx hb hts ii_J5_append_cf1ce_J4 tyJ4 tyJ4_ok nmJ4 hown hK hP (sD hne hv _ _ _ _ _) hS 0 rfl rfl 3 (by decide) (hts _ mm_J5_append_cf1ce_1) (fun _ hh => hh) rfl (by decide +kernel) rfl rfl (Nat.le_of_ble_eq_true rfl) dJ5_append_cf1ce_40 (fun H locs hP _ hS => ?_)
    have hP : va_P (dC, dI) vwCl (sw a v cB nb f10 ml11 (nI (cn + n2))) H := hP
    refine lv_aload_n hx hb dJ5_append_cf1ce_43 rfl (lv_at hl 1 rfl) ?_
    refine W.widen (k := 1) (n := 34) (Nat.le_of_ble_eq_true rfl) (Nat.le_of_ble_eq_true rfl) ?_
    exact W.aret (v := .ref a) hx hb hr (Or.inl ⟨_, rfl⟩) (Or.inr ⟨_, rfl⟩) (fun t ht hW => ⟨⟨(v, cB, nb, f10, ml11, (nI (cn + n2))), a, rfl, trivial, ⟨by show nb = 16 ∨ nb = 34; omega, congrArg nI (show (cn + n2) = cn + sv_len.getD si 0 by omega), by show cn + sv_len.getD si 0 ≤ nb; omega, trivial⟩, rfl, sB.of ht hW hP hK hne hv hF⟩, hS.F ht⟩) hS.2.2 dJ5_append_cf1ce_44
  · have hnb6 : 16 = nb := by omega
    subst hnb6
    have hP : va_P (dC, dI) vwCl (sw a v cB 16 f ml (nI cn)) _ := hP
    have hS0 := hS
    refine va_callv (va_runU (As := [.int (nI (cn + n2))]) (rest := []) ⟨hx, hb, hml, hown, hts⟩ (s_ens1 l dC dI ad E hEE a v cB f ml cn _ (cn + n2) hne hF (by omega) (by omega) (by omega)) (va_cwU 1 hts gJ5_append_cf1ce_J5_ensureCapacityInternal_d00df_u100J4 rfl rfl rfl rfl (by decide +kernel) ⟨Nat.le_of_ble_eq_true rfl, Nat.le_of_ble_eq_true rfl⟩) ⟨fun a U g mk q => ⟨q.1, sPre.blind hEE q.2⟩, va_recv hK hP (ci := 0) (q0 := 0) rfl rfl, fun U hU hW => ⟨rfl, sPre.of hEE hP hK hE hS (sA.le hv hS.1) hU hW⟩⟩ rfl rfl hl.1 rfl (lv_room (Nat.le_of_ble_eq_true rfl)) dJ5_append_cf1ce_21 ⟨Nat.le_of_ble_eq_true rfl, Nat.le_of_ble_eq_true rfl⟩) hS (fun q _ h => sA.le hv hS.1 q h) (sA.le hv hS.1) (fun x t H locs ht hvm hw hB _ _ hS => ?_)
    obtain ⟨hP, hK2, hne2, hv2, hF2⟩ := hB
    rw [ht] at hP
    obtain ⟨v14, cB15, nb16, f17, ml18, cn19⟩ := x
    dsimp only at hP hK2 hne2 hv2 hF2 hw
    have hK := va_K.moved hvm.symm hK2
    obtain ⟨hnb9, rfl, hcn9, hw⟩ := hw
    have hv := sv.tr hv hv2 hS0.1
    have hne := hne2
    have hF := hF2
    clear hK2 hne2 hv2 hF2 ht hvm
    have hP : va_P (dC, dI) vwCl (sw a v14 cB15 nb16 f17 ml18 (nI cn)) _ := hP
    clear hw
    refine lv_aload_n hx hb dJ5_append_cf1ce_24 rfl (lv_at hl 1 rfl) ?_
    refine lv_aload_n hx hb dJ5_append_cf1ce_25 rfl (lv_at hl 1 rfl) ?_
    refine va_get (D := (dC, dI)) (ci := 0) (v := .int (nI cn)) (C := RJ4) (T := TJ4) (N := 4) hx hb hts ii_J5_append_cf1ce_J4 hown hK hP 0 rfl rfl 3 (by decide) (hts _ mm_J5_append_cf1ce_1) (fun _ hh => hh) rfl dJ5_append_cf1ce_26 ?_
    refine lv_aload_n hx hb dJ5_append_cf1ce_29 rfl (lv_at hl 2 rfl) ?_
    refine va_callv (va_runU (As := [.int (nI cn), .ref (ad (100 + si))]) (rest := []) ⟨hx, hb, hml, hown, hts⟩ (s_J5_putStringAt_47b60 l dC dI ad E hEE a v14 cB15 nb16 f17 ml18 cn _ cn si hne hF (by omega) (by omega) (by omega) (by omega) (by omega)) (va_cwU 2 hts gJ5_append_cf1ce_J5_putStringAt_47b60_u208J4 rfl rfl rfl rfl (by decide +kernel) ⟨Nat.le_of_ble_eq_true rfl, Nat.le_of_ble_eq_true rfl⟩) ⟨fun a U g mk q => ⟨q.1, sPre.blind hEE q.2⟩, va_recv hK hP (ci := 0) (q0 := 0) rfl rfl, fun U hU hW => ⟨rfl, sPre.of hEE hP hK hE hS (sA.le hv hS.1) hU hW⟩⟩ rfl rfl hl.1 rfl (lv_room (Nat.le_of_ble_eq_true rfl)) dJ5_append_cf1ce_30 ⟨Nat.le_of_ble_eq_true rfl, Nat.le_of_ble_eq_true rfl⟩) hS (fun q _ h => sA.le hv hS.1 q h) (sA.le hv hS.1) (fun x t H locs ht hvm hw hB _ _ hS => ?_)
    obtain ⟨hP, hK2, hne2, hv2, hF2⟩ := hB
    rw [ht] at hP
    obtain ⟨v21, cB22, nb23, f24, ml25, cn26⟩ := x
    dsimp only at hP hK2 hne2 hv2 hF2 hw
    have hK := va_K.moved hvm.symm hK2
    obtain ⟨rfl, rfl, rfl, rfl, hw⟩ := hw
    have hF := hF2
    clear hK2 hne2 hv2 hF2 ht hvm
    have hP : va_P (dC, dI) vwCl (sw a v14 cB15 nb16 f24 ml25 (nI cn)) _ := hP
    clear hw
    refine lv_aload_n hx hb dJ5_append_cf1ce_33 rfl (lv_at hl 1 rfl) ?_
    refine lv_dup hx hb dJ5_append_cf1ce_34 rfl ?_
    refine va_get (D := (dC, dI)) (ci := 0) (v := .int (nI cn)) (C := RJ4) (T := TJ4) (N := 4) hx hb hts ii_J5_append_cf1ce_J4 hown hK hP 0 rfl rfl 3 (by decide) (hts _ mm_J5_append_cf1ce_1) (fun _ hh => hh) rfl dJ5_append_cf1ce_35 ?_
    refine lv_iload_n hx hb dJ5_append_cf1ce_38 rfl (lv_at hl 0 rfl) ?_
    refine lv_iadd hx hb dJ5_append_cf1ce_39 ?_
    refine zz_top (v := nI (cn + n2)) (nI_add cn n2) ?_
    refine va_put (D := (dC, dI)) (ci := 0) (v := .int (nI (cn + n2))) (ty := .int) (C := RJ4) (T := TJ4) (N := 4) hx hb hts ii_J5_append_cf1ce_J4 tyJ4 tyJ4_ok nmJ4 hown hK hP (sD hne hv _ _ _ _ _) hS 0 rfl rfl 3 (by decide) (hts _ mm_J5_append_cf1ce_1) (fun _ hh => hh) rfl (by decide +kernel) rfl rfl (Nat.le_of_ble_eq_true rfl) dJ5_append_cf1ce_40 (fun H locs hP _ hS => ?_)
    have hP : va_P (dC, dI) vwCl (sw a v14 cB15 nb16 f24 ml25 (nI (cn + n2))) H := hP
    refine lv_aload_n hx hb dJ5_append_cf1ce_43 rfl (lv_at hl 1 rfl) ?_
    exact W.aret (v := .ref a) hx hb hr (Or.inl ⟨_, rfl⟩) (Or.inr ⟨_, rfl⟩) (fun t ht hW => ⟨⟨(v14, cB15, nb16, f24, ml25, (nI (cn + n2))), a, rfl, trivial, ⟨by show nb16 = 16 ∨ nb16 = 34; omega, congrArg nI (show (cn + n2) = cn + sv_len.getD si 0 by omega), by show cn + sv_len.getD si 0 ≤ nb16; omega, trivial⟩, rfl, sB.of ht hW hP hK hne hv hF⟩, hS.F ht⟩) hS.2.2 dJ5_append_cf1ce_44
set_option maxHeartbeats 4000000 in
set_option maxRecDepth 100000 in
theorem s_J4_append_15ec4 (l : Launch) (dC : Nat → ClassId) (dI : Nat → Nat → Nat) (ad : Nat → Nat) (E : EP) (hEE : EC ad E) (a v : Nat) (cB : ClassId) (nb : Nat) (f : Nat → Int32) (ml : Int32) (cn sz : Nat) (si : Nat) (hne : a ≠ v) (hF : sb_Fit f) (hnb : nb = 16 ∨ nb = 34) (hcn : cn ≤ nb) (hsi : si < 30) (hlen : cn + sv_len.getD si 0 ≤ 34) : Met l yJ4_append_15ec4 wsJ4_append_15ec4 ({ frames := 5, cells := 1, slots := 34, locals := 127 }) (va_Pc [.ref a, .ref (ad (100 + si))] (sPre E dC dI a v cB nb f ml (nI cn) sz)) (va_Qr (fun (_ : SU) => True) (fun (x : SU) (r : Nat) (t : State) => ((x.2.2.1 = 16 ∨ x.2.2.1 = 34) ∧ x.2.2.2.2.2 = nI (cn + sv_len.getD si 0) ∧ cn + sv_len.getD si 0 ≤ x.2.2.1 ∧ (True)) ∧ r = a ∧ sB dC dI a v sz x t) (sA a v sz)) 1 34 (sA a v sz) := by
  refine Met.ofW (cc := cJ4_append_15ec4) (maxL := 2) (ret := (some (.object "java/lang/StringBuilder"))) (by decide) rfl ?_
  intro p e s m args below meth c s₁ B hml hv
  obtain ⟨rfl, hsz, hP, hK, hE⟩ := hv
  have hx := B.exec
  have hb := B.bytes
  have hr := B.returns
  have hts := atoms_spec (ws := wsJ4_append_15ec4) B.pre
  have hown : s.vm.findClass RJ4 = some m.cls := findClass_of_methodNamed B.named
  subst hsz
  have hEv := hEE.1 _ _ _ hE
  have hS : va_S (sA a v s.heap.size) s.heap s.heap [] := va_S.rf
  have hv : v = v ∨ s.heap.size ≤ v := Or.inl rfl
  have hl := lv_entry ([.ref a, .ref (ad (100 + si))]) (n := 2) (Nat.le_of_ble_eq_true rfl)
  rw [lg_entry_eq]
  generalize (lg_sl ([.ref a, .ref (ad (100 + si))]) ++ List.replicate (2 - (lg_sl ([.ref a, .ref (ad (100 + si))])).length) Slot.unset).toArray = ls at hl ⊢
  have hl : lv_has ls 2 [(0, .ref a), (1, .ref (ad (100 + si)))] := hl
  refine lv_aload_n hx hb dJ4_append_15ec4_0 rfl (lv_at hl 0 rfl) ?_
  refine lv_aload_n hx hb dJ4_append_15ec4_1 rfl (lv_at hl 1 rfl) ?_
  have hS0 := hS
  refine va_callr (va_runSU (hK.1 0 _ rfl).2 (As := [.ref (ad (100 + si))]) (rest := []) ⟨hx, hb, hml, hown, hts⟩ (s_J5_append_cf1ce l dC dI ad E hEE a v cB nb f ml cn _ si hne hF (by omega) (by omega) (by omega) (by omega)) (va_cwSU 1 hts gJ4_append_15ec4_J5_append_cf1ce_s29 rfl rfl rfl (by decide +kernel) ⟨Nat.le_of_ble_eq_true rfl, Nat.le_of_ble_eq_true rfl⟩) ⟨fun a U g mk q => ⟨q.1, sPre.blind hEE q.2⟩, va_recv hK hP (ci := 0) (q0 := 0) rfl rfl, fun U hU hW => ⟨rfl, sPre.of hEE hP hK hE hS (sA.le hv hS.1) hU hW⟩⟩ rfl rfl hl.1 rfl (lv_room (Nat.le_of_ble_eq_true rfl)) dJ4_append_15ec4_2 ⟨Nat.le_of_ble_eq_true rfl, Nat.le_of_ble_eq_true rfl⟩) hS (fun q _ h => sA.le hv hS.1 q h) (sA.le hv hS.1) (fun x r1 t H locs ht hvm hw hB _ _ hS => ?_)
  obtain ⟨hw, hr9, hB⟩ := hB
  replace hr9 := hr9.symm
  subst hr9
  obtain ⟨hP, hK2, hne2, hv2, hF2⟩ := hB
  rw [ht] at hP
  obtain ⟨v2, cB3, nb4, f5, ml6, cn7⟩ := x
  dsimp only at hP hK2 hne2 hv2 hF2 hw
  have hK := va_K.moved hvm.symm hK2
  obtain ⟨hnb9, rfl, hcn9, hw⟩ := hw
  have hv := sv.tr hv hv2 hS0.1
  have hne := hne2
  have hF := hF2
  clear hK2 hne2 hv2 hF2 ht hvm
  have hP : va_P (dC, dI) vwCl (sw a v2 cB3 nb4 f5 ml6 (nI (cn + sv_len.getD si 0))) _ := hP
  clear hw
  refine lv_pop hx hb dJ4_append_15ec4_5 rfl ?_
  refine lv_aload_n hx hb dJ4_append_15ec4_6 rfl (lv_at hl 0 rfl) ?_
  exact W.aret (v := .ref a) hx hb hr (Or.inl ⟨_, rfl⟩) (Or.inr ⟨_, rfl⟩) (fun t ht hW => ⟨⟨(v2, cB3, nb4, f5, ml6, (nI (cn + sv_len.getD si 0))), a, rfl, trivial, ⟨by show nb4 = 16 ∨ nb4 = 34; omega, congrArg nI (show (cn + sv_len.getD si 0) = cn + sv_len.getD si 0 by omega), by show cn + sv_len.getD si 0 ≤ nb4; omega, trivial⟩, rfl, sB.of ht hW hP hK hne hv hF⟩, hS.F ht⟩) hS.2.2 dJ4_append_15ec4_7
set_option maxHeartbeats 4000000 in
set_option maxRecDepth 100000 in
theorem s_J6_stringSize_0f7a4 (l : Launch) (dC : Nat → ClassId) (dI : Nat → Nat → Nat) (ad : Nat → Nat) (E : EP) (hEE : EC ad E) (a v : Nat) (cB : ClassId) (nb : Nat) (f : Nat → Int32) (ml : Int32) (cn sz : Nat) (va : Nat) (hne : a ≠ v) (hF : sb_Fit f) (hnb : nb = 16 ∨ nb = 34) (hcn : cn ≤ nb) (hva : va < 24) : Met l yJ6_stringSize_0f7a4 wsJ6_stringSize_0f7a4 ({ frames := 0, cells := 0, slots := 0, locals := 0 }) (va_Pc [.int (nI va)] (sPre E dC dI a v cB nb f ml (nI cn) sz)) (va_Qi (fun (r : Int32) (x : SU) => x = (v, cB, nb, f, ml, nI cn) ∧ (∃ n : Nat, r = nI n ∧ n = if va < 10 then 1 else 2)) (sB dC dI a v sz) (sA a v sz)) 0 0 (sA a v sz) := by
  refine Met.ofW (cc := cJ6_stringSize_0f7a4) (maxL := 4) (ret := (some .int)) (by decide) rfl ?_
  intro p e s m args below meth c s₁ B hml hv
  obtain ⟨rfl, hsz, hP, hK, hE⟩ := hv
  have hx := B.exec
  have hb := B.bytes
  have hr := B.returns
  have hts := atoms_spec (ws := wsJ6_stringSize_0f7a4) B.pre
  have hown : s.vm.findClass RJ6 = some m.cls := findClass_of_methodNamed B.named
  subst hsz
  have hEv := hEE.1 _ _ _ hE
  have hS : va_S (sA a v s.heap.size) s.heap s.heap [] := va_S.rf
  have hv : v = v ∨ s.heap.size ≤ v := Or.inl rfl
  have hl := lv_entry ([.int (nI va)]) (n := 4) (Nat.le_of_ble_eq_true rfl)
  rw [lg_entry_eq]
  generalize (lg_sl ([.int (nI va)]) ++ List.replicate (4 - (lg_sl ([.int (nI va)])).length) Slot.unset).toArray = ls at hl ⊢
  have hl : lv_has ls 4 [(0, .int (nI va))] := hl
  refine lv_iconst (v := 1) hx hb dJ6_stringSize_0f7a4_0 (by decide) ?_
  refine lv_istore_n (lv' := [(1, .int 1), (0, .int (nI va))]) hx hb dJ6_stringSize_0f7a4_1 rfl hl (by decide) rfl (fun ls hl => ?_)
  refine lv_iload_n hx hb dJ6_stringSize_0f7a4_2 rfl (lv_at hl 1 rfl) ?_
  refine lv_if_lt (tgt := 11) hx hb dJ6_stringSize_0f7a4_3 (by decide) (fun cc => absurd ((nI_ltI (a := va) (b := 0) (by omega) (by omega)).mp cc) (by omega)) (fun _ => ?_)
  refine lv_iconst (v := 0) hx hb dJ6_stringSize_0f7a4_6 (by decide) ?_
  refine lv_istore_n (lv' := [(1, .int 0), (0, .int (nI va))]) hx hb dJ6_stringSize_0f7a4_7 rfl hl (by decide) rfl (fun ls hl => ?_)
  refine lv_iload_n hx hb dJ6_stringSize_0f7a4_8 rfl (lv_at hl 1 rfl) ?_
  refine lv_ineg hx hb dJ6_stringSize_0f7a4_9 ?_
  refine lv_istore_n (lv' := [(0, .int (-nI va)), (1, .int 0)]) hx hb dJ6_stringSize_0f7a4_10 rfl hl (by decide) rfl (fun ls hl => ?_)
  refine lv_bipush (v := (-10)) hx hb dJ6_stringSize_0f7a4_11 (by decide) ?_
  refine lv_istore_n (lv' := [(2, .int (-10)), (0, .int (-nI va)), (1, .int 0)]) hx hb dJ6_stringSize_0f7a4_13 rfl hl (by decide) rfl (fun ls hl => ?_)
  refine lv_iconst (v := 1) hx hb dJ6_stringSize_0f7a4_14 (by decide) ?_
  refine lv_istore_n (lv' := [(3, .int 1), (2, .int (-10)), (0, .int (-nI va)), (1, .int 0)]) hx hb dJ6_stringSize_0f7a4_15 rfl hl (by decide) rfl (fun ls hl => ?_)
  refine lv_iload_n hx hb dJ6_stringSize_0f7a4_16 rfl (lv_at hl 0 rfl) ?_
  refine lv_bipush (v := 10) hx hb dJ6_stringSize_0f7a4_17 (by decide) ?_
  refine lv_icmp_ge (tgt := 42) hx hb dJ6_stringSize_0f7a4_19 (by decide) (fun cc => absurd cc (by decide)) (fun _ => ?_)
  refine lv_iload_n hx hb dJ6_stringSize_0f7a4_22 rfl (lv_at hl 2 rfl) ?_
  refine lv_iload_n hx hb dJ6_stringSize_0f7a4_23 rfl (lv_at hl 1 rfl) ?_
  refine lv_icmp_le (tgt := 31) hx hb dJ6_stringSize_0f7a4_24 (by decide) (fun c3 => ?_) (fun c3 => ?_)
  · have c3 : 10 ≤ va := (sb_nle (a := va) (b := 10) (by omega) (by omega)).mp c3
    refine lv_bipush (v := 10) hx hb dJ6_stringSize_0f7a4_31 (by decide) ?_
    refine lv_iload_n hx hb dJ6_stringSize_0f7a4_33 rfl (lv_at hl 1 rfl) ?_
    refine lv_imul hx hb dJ6_stringSize_0f7a4_34 ?_
    refine zz_top (v := (-100)) (by decide) ?_
    refine lv_istore_n (lv' := [(2, .int (-100)), (3, .int 1), (0, .int (-nI va)), (1, .int 0)]) hx hb dJ6_stringSize_0f7a4_35 rfl hl (by decide) rfl (fun ls hl => ?_)
    refine lv_iinc (v := 2) (lv' := [(3, .int 2), (2, .int (-100)), (0, .int (-nI va)), (1, .int 0)]) hx hb dJ6_stringSize_0f7a4_36 hl (k := 1) rfl (by decide) (by decide) rfl (fun ls hl => ?_)
    refine lv_goto (tgt := 16) hx hb dJ6_stringSize_0f7a4_39 (by decide) ?_
    refine lv_iload_n hx hb dJ6_stringSize_0f7a4_16 rfl (lv_at hl 0 rfl) ?_
    refine lv_bipush (v := 10) hx hb dJ6_stringSize_0f7a4_17 (by decide) ?_
    refine lv_icmp_ge (tgt := 42) hx hb dJ6_stringSize_0f7a4_19 (by decide) (fun cc => absurd cc (by decide)) (fun _ => ?_)
    refine lv_iload_n hx hb dJ6_stringSize_0f7a4_22 rfl (lv_at hl 2 rfl) ?_
    refine lv_iload_n hx hb dJ6_stringSize_0f7a4_23 rfl (lv_at hl 1 rfl) ?_
    refine lv_icmp_le (tgt := 31) hx hb dJ6_stringSize_0f7a4_24 (by decide) (fun cc => absurd ((sb_nle (a := va) (b := 100) (by omega) (by omega)).mp cc) (by omega)) (fun _ => ?_)
    refine lv_iload_n hx hb dJ6_stringSize_0f7a4_27 rfl (lv_at hl 0 rfl) ?_
    refine lv_iload_n hx hb dJ6_stringSize_0f7a4_28 rfl (lv_at hl 3 rfl) ?_
    refine lv_iadd hx hb dJ6_stringSize_0f7a4_29 ?_
    refine zz_top (v := 2) (by decide) ?_
    exact W.iret (v := 2) hx hb hr (fun t ht hW => ⟨⟨2, (v, cB, nb, f, ml, (nI cn)), rfl, ⟨rfl, ⟨2, rfl, by first | rw [if_pos (by omega)] | rw [if_neg (by omega)]⟩⟩, sB.of ht hW hP hK hne hv hF⟩, hS.F ht⟩) hS.2.2 dJ6_stringSize_0f7a4_30
  · have c3 : ¬ 10 ≤ va := fun hh => c3 ((sb_nle (a := va) (b := 10) (by omega) (by omega)).mpr hh)
    refine lv_iload_n hx hb dJ6_stringSize_0f7a4_27 rfl (lv_at hl 0 rfl) ?_
    refine lv_iload_n hx hb dJ6_stringSize_0f7a4_28 rfl (lv_at hl 3 rfl) ?_
    refine lv_iadd hx hb dJ6_stringSize_0f7a4_29 ?_
    refine zz_top (v := 1) (by decide) ?_
    exact W.iret (v := 1) hx hb hr (fun t ht hW => ⟨⟨1, (v, cB, nb, f, ml, (nI cn)), rfl, ⟨rfl, ⟨1, rfl, by first | rw [if_pos (by omega)] | rw [if_neg (by omega)]⟩⟩, sB.of ht hW hP hK hne hv hF⟩, hS.F ht⟩) hS.2.2 dJ6_stringSize_0f7a4_30
set_option maxHeartbeats 4000000 in
set_option maxRecDepth 100000 in
theorem s_J6_getChars_ba4f3 (l : Launch) (dC : Nat → ClassId) (dI : Nat → Nat → Nat) (ad : Nat → Nat) (E : EP) (hEE : EC ad E) (a v : Nat) (cB : ClassId) (nb : Nat) (f : Nat → Int32) (ml : Int32) (cn sz : Nat) (va : Nat) (vb : Nat) (hne : a ≠ v) (hF : sb_Fit f) (hnb : nb = 16 ∨ nb = 34) (hcn : cn ≤ nb) (hva : va < 24) (hvb : vb < 35) (hgc : (if va < 10 then 1 else 2) ≤ vb) (hgc2 : vb ≤ nb) : Met l yJ6_getChars_ba4f3 wsJ6_getChars_ba4f3 ({ frames := 0, cells := 0, slots := 0, locals := 0 }) (va_Pc [.int (nI va), .int (nI vb), .ref v] (sPre E dC dI a v cB nb f ml (nI cn) sz)) (va_Qi (fun (r : Int32) (x : SU) => v = x.1 ∧ cB = x.2.1 ∧ nb = x.2.2.1 ∧ x.2.2.2.2.2 = nI (cn) ∧ (True)) (sB dC dI a v sz) (sA a v sz)) 0 0 (sA a v sz) := by
  refine Met.ofW (cc := cJ6_getChars_ba4f3) (maxL := 7) (ret := (some .int)) (by decide) rfl ?_
  intro p e s m args below meth c s₁ B hml hv
  obtain ⟨rfl, hsz, hP, hK, hE⟩ := hv
  have hx := B.exec
  have hb := B.bytes
  have hr := B.returns
  have hts := atoms_spec (ws := wsJ6_getChars_ba4f3) B.pre
  have hown : s.vm.findClass RJ6 = some m.cls := findClass_of_methodNamed B.named
  subst hsz
  have hEv := hEE.1 _ _ _ hE
  have hS : va_S (sA a v s.heap.size) s.heap s.heap [] := va_S.rf
  have hv : v = v ∨ s.heap.size ≤ v := Or.inl rfl
  have hl := lv_entry ([.int (nI va), .int (nI vb), .ref v]) (n := 7) (Nat.le_of_ble_eq_true rfl)
  rw [lg_entry_eq]
  generalize (lg_sl ([.int (nI va), .int (nI vb), .ref v]) ++ List.replicate (7 - (lg_sl ([.int (nI va), .int (nI vb), .ref v])).length) Slot.unset).toArray = ls at hl ⊢
  have hl : lv_has ls 7 [(0, .int (nI va)), (1, .int (nI vb)), (2, .ref v)] := hl
  have hgc1 : 1 ≤ vb := by split at hgc <;> omega
  have hgc3 : ¬ va < 10 → 2 ≤ vb := fun h9 => by rw [if_neg h9] at hgc; exact hgc
  refine lv_iload_n hx hb dJ6_getChars_ba4f3_0 rfl (lv_at hl 1 rfl) ?_
  refine lv_istore (lv' := [(5, .int (nI vb)), (0, .int (nI va)), (1, .int (nI vb)), (2, .ref v)]) hx hb dJ6_getChars_ba4f3_1 hl (by decide) rfl (fun ls hl => ?_)
  refine lv_iload_n hx hb dJ6_getChars_ba4f3_3 rfl (lv_at hl 1 rfl) ?_
  refine lv_if_ge (tgt := 11) hx hb dJ6_getChars_ba4f3_4 (by decide) (fun _ => ?_) (fun cc => absurd ((nI_leI (a := 0) (b := va) (by omega) (by omega)).mpr (by omega)) cc)
  refine lv_iconst (v := 0) hx hb dJ6_getChars_ba4f3_11 (by decide) ?_
  refine lv_istore (lv' := [(6, .int 0), (5, .int (nI vb)), (0, .int (nI va)), (1, .int (nI vb)), (2, .ref v)]) hx hb dJ6_getChars_ba4f3_12 hl (by decide) rfl (fun ls hl => ?_)
  refine lv_iload hx hb dJ6_getChars_ba4f3_14 (lv_at hl 0 rfl) ?_
  refine lv_if_ne (tgt := 22) hx hb dJ6_getChars_ba4f3_16 (by decide) (fun cc => absurd (by decide) cc) (fun _ => ?_)
  refine lv_iload_n hx hb dJ6_getChars_ba4f3_19 rfl (lv_at hl 2 rfl) ?_
  refine lv_ineg hx hb dJ6_getChars_ba4f3_20 ?_
  refine lv_istore_n (lv' := [(0, .int (-nI va)), (6, .int 0), (5, .int (nI vb)), (1, .int (nI vb)), (2, .ref v)]) hx hb dJ6_getChars_ba4f3_21 rfl hl (by decide) rfl (fun ls hl => ?_)
  refine lv_iload_n hx hb dJ6_getChars_ba4f3_22 rfl (lv_at hl 0 rfl) ?_
  refine lv_bipush (v := (-100)) hx hb dJ6_getChars_ba4f3_23 (by decide) ?_
  refine lv_icmp_gt (tgt := 72) hx hb dJ6_getChars_ba4f3_25 (by decide) (fun _ => ?_) (fun cc => absurd ((sb_nlt (a := 100) (b := va) (by omega) (by omega)).mpr (by omega)) cc)
  refine lv_aload_n hx hb dJ6_getChars_ba4f3_72 rfl (lv_at hl 4 rfl) ?_
  refine lv_iinc (v := (nI (vb - 1))) (lv' := [(5, .int (nI (vb - 1))), (0, .int (-nI va)), (6, .int 0), (1, .int (nI vb)), (2, .ref v)]) hx hb dJ6_getChars_ba4f3_73 hl (k := 2) rfl (sb_m1 (by omega)) (by decide) rfl (fun ls hl => ?_)
  refine lv_iload hx hb dJ6_getChars_ba4f3_76 (lv_at hl 0 rfl) ?_
  refine va_gets (v := .ref (ad 301)) hx hb (hEv.sv.2.2.2.1.1.1) hS hown (hts _ mm_J6_getChars_ba4f3_1) (fun _ hh => hh) dJ6_getChars_ba4f3_78 ?_
  refine lv_iload_n hx hb dJ6_getChars_ba4f3_81 rfl (lv_at hl 1 rfl) ?_
  refine lv_ineg hx hb dJ6_getChars_ba4f3_82 ?_
  refine zz_top (v := nI va) Int32.neg_neg ?_
  refine va_tb hx hb hEv.sv.2.2.2.1.1.2 hS (i := (nI va)) (vp_in_nI (by omega) (by omega)) rfl dJ6_getChars_ba4f3_83 ?_
  refine lv_topi (fun z1 ez1 => ?_)
  clear ez1
  refine va_bast hx hb hK hP (sD hne hv _ _ _ _ _) hS 1 0 rfl rfl (i := (nI (vb - 1))) (vp_in_nI (by omega) (by omega)) dJ6_getChars_ba4f3_84 (fun H locs hP _ hS => ?_)
  obtain ⟨f2, ef2⟩ : ∃ y, y = upd f ((nI (vb - 1))).toNatClampNeg (vp_nar .byte z1) := ⟨_, rfl⟩
  have hF : sb_Fit f2 := by rw [ef2]; exact sb_fitU hF (zz_fitn _)
  have hP : va_P (dC, dI) vwCl (sw a v cB nb f2 ml (nI cn)) H := by rw [ef2]; exact hP
  clear ef2
  refine lv_iload_n hx hb dJ6_getChars_ba4f3_85 rfl (lv_at hl 1 rfl) ?_
  refine lv_bipush (v := (-9)) hx hb dJ6_getChars_ba4f3_86 (by decide) ?_
  refine lv_icmp_ge (tgt := 104) hx hb dJ6_getChars_ba4f3_88 (by decide) (fun c4 => ?_) (fun c4 => ?_)
  · have c4 : va ≤ 9 := (sb_nle (a := 9) (b := va) (by omega) (by omega)).mp c4
    refine lv_iload hx hb dJ6_getChars_ba4f3_104 (lv_at hl 2 rfl) ?_
    refine lv_if_eq (tgt := 118) hx hb dJ6_getChars_ba4f3_106 (by decide) (fun _ => ?_) (fun cc => absurd (by decide) cc)
    refine lv_iload hx hb dJ6_getChars_ba4f3_118 (lv_at hl 0 rfl) ?_
    exact W.iret (v := (nI (vb - 1))) hx hb hr (fun t ht hW => ⟨⟨(nI (vb - 1)), (v, cB, nb, f2, ml, (nI cn)), rfl, ⟨rfl, rfl, rfl, congrArg nI (show cn = cn by omega), trivial⟩, sB.of ht hW hP hK hne hv hF⟩, hS.F ht⟩) hS.2.2 dJ6_getChars_ba4f3_120
  · have c4 : ¬ va ≤ 9 := fun hh => c4 ((sb_nle (a := 9) (b := va) (by omega) (by omega)).mpr hh)
    have hgc4 := hgc3 (by omega)
    refine lv_aload_n hx hb dJ6_getChars_ba4f3_91 rfl (lv_at hl 4 rfl) ?_
    refine lv_iinc (v := (nI ((vb - 1) - 1))) (lv' := [(5, .int (nI ((vb - 1) - 1))), (0, .int (-nI va)), (6, .int 0), (1, .int (nI vb)), (2, .ref v)]) hx hb dJ6_getChars_ba4f3_92 hl (k := 0) rfl (sb_m1 (by omega)) (by decide) rfl (fun ls hl => ?_)
    refine lv_iload hx hb dJ6_getChars_ba4f3_95 (lv_at hl 0 rfl) ?_
    refine va_gets (v := .ref (ad 302)) hx hb (hEv.sv.2.2.2.1.2.1) hS hown (hts _ mm_J6_getChars_ba4f3_2) (fun _ hh => hh) dJ6_getChars_ba4f3_97 ?_
    refine lv_iload_n hx hb dJ6_getChars_ba4f3_100 rfl (lv_at hl 1 rfl) ?_
    refine lv_ineg hx hb dJ6_getChars_ba4f3_101 ?_
    refine zz_top (v := nI va) Int32.neg_neg ?_
    refine va_tb hx hb hEv.sv.2.2.2.1.2.2 hS (i := (nI va)) (vp_in_nI (by omega) (by omega)) rfl dJ6_getChars_ba4f3_102 ?_
    refine lv_topi (fun z3 ez3 => ?_)
    clear ez3
    refine va_bast hx hb hK hP (sD hne hv _ _ _ _ _) hS 1 0 rfl rfl (i := (nI ((vb - 1) - 1))) (vp_in_nI (by omega) (by omega)) dJ6_getChars_ba4f3_103 (fun H locs hP _ hS => ?_)
    obtain ⟨f4, ef4⟩ : ∃ y, y = upd f2 ((nI ((vb - 1) - 1))).toNatClampNeg (vp_nar .byte z3) := ⟨_, rfl⟩
    have hF : sb_Fit f4 := by rw [ef4]; exact sb_fitU hF (zz_fitn _)
    have hP : va_P (dC, dI) vwCl (sw a v cB nb f4 ml (nI cn)) H := by rw [ef4]; exact hP
    clear ef4
    refine lv_iload hx hb dJ6_getChars_ba4f3_104 (lv_at hl 2 rfl) ?_
    refine lv_if_eq (tgt := 118) hx hb dJ6_getChars_ba4f3_106 (by decide) (fun _ => ?_) (fun cc => absurd (by decide) cc)
    refine lv_iload hx hb dJ6_getChars_ba4f3_118 (lv_at hl 0 rfl) ?_
    exact W.iret (v := (nI ((vb - 1) - 1))) hx hb hr (fun t ht hW => ⟨⟨(nI ((vb - 1) - 1)), (v, cB, nb, f4, ml, (nI cn)), rfl, ⟨rfl, rfl, rfl, congrArg nI (show cn = cn by omega), trivial⟩, sB.of ht hW hP hK hne hv hF⟩, hS.F ht⟩) hS.2.2 dJ6_getChars_ba4f3_120
set_option maxHeartbeats 4000000 in
set_option maxRecDepth 100000 in
theorem s_J5_append_c97b9 (l : Launch) (dC : Nat → ClassId) (dI : Nat → Nat → Nat) (ad : Nat → Nat) (E : EP) (hEE : EC ad E) (a v : Nat) (cB : ClassId) (nb : Nat) (f : Nat → Int32) (ml : Int32) (cn sz : Nat) (va : Nat) (hne : a ≠ v) (hF : sb_Fit f) (hnb : nb = 16 ∨ nb = 34) (hcn : cn ≤ nb) (hva : va < 24) (hlen : cn + 2 ≤ 34) : Met l yJ5_append_c97b9 wsJ5_append_c97b9 ({ frames := 4, cells := 1, slots := 34, locals := 91 }) (va_Pc [.ref a, .int (nI va)] (sPre E dC dI a v cB nb f ml (nI cn) sz)) (va_Qr (fun (_ : SU) => True) (fun (x : SU) (r : Nat) (t : State) => ((x.2.2.1 = 16 ∨ x.2.2.1 = 34) ∧ x.2.2.2.2.2 = nI ((cn + if va < 10 then 1 else 2)) ∧ (cn + if va < 10 then 1 else 2) ≤ x.2.2.1 ∧ (True)) ∧ r = a ∧ sB dC dI a v sz x t) (sA a v sz)) 1 34 (sA a v sz) := by
  refine Met.ofW (cc := cJ5_append_c97b9) (maxL := 4) (ret := (some (.object "java/lang/AbstractStringBuilder"))) (by decide) rfl ?_
  intro p e s m args below meth c s₁ B hml hv
  obtain ⟨rfl, hsz, hP, hK, hE⟩ := hv
  have hx := B.exec
  have hb := B.bytes
  have hr := B.returns
  have hts := atoms_spec (ws := wsJ5_append_c97b9) B.pre
  have hown : s.vm.findClass RJ5 = some m.cls := findClass_of_methodNamed B.named
  subst hsz
  have hEv := hEE.1 _ _ _ hE
  have hS : va_S (sA a v s.heap.size) s.heap s.heap [] := va_S.rf
  have hv : v = v ∨ s.heap.size ≤ v := Or.inl rfl
  have hl := lv_entry ([.ref a, .int (nI va)]) (n := 4) (Nat.le_of_ble_eq_true rfl)
  rw [lg_entry_eq]
  generalize (lg_sl ([.ref a, .int (nI va)]) ++ List.replicate (4 - (lg_sl ([.ref a, .int (nI va)])).length) Slot.unset).toArray = ls at hl ⊢
  have hl : lv_has ls 4 [(0, .ref a), (1, .int (nI va))] := hl
  refine lv_aload_n hx hb dJ5_append_c97b9_0 rfl (lv_at hl 0 rfl) ?_
  refine va_get (D := (dC, dI)) (ci := 0) (v := .int (nI cn)) (C := RJ4) (T := TJ4) (N := 4) hx hb hts ii_J5_append_c97b9_J4 hown hK hP 0 rfl rfl 3 (by decide) (hts _ mm_J5_append_c97b9_1) (fun _ hh => hh) rfl dJ5_append_c97b9_1 ?_
  refine lv_istore_n (lv' := [(2, .int (nI cn)), (0, .ref a), (1, .int (nI va))]) hx hb dJ5_append_c97b9_4 rfl hl (by decide) rfl (fun ls hl => ?_)
  refine lv_iload_n hx hb dJ5_append_c97b9_5 rfl (lv_at hl 0 rfl) ?_
  refine lv_iload_n hx hb dJ5_append_c97b9_6 rfl (lv_at hl 2 rfl) ?_
  refine va_calli (va_runS (As := [.int (nI va)]) (rest := [.int (nI cn)]) ⟨hx, hb, hml, hown, hts⟩ (s_J6_stringSize_0f7a4 l dC dI ad E hEE a v cB nb f ml cn _ va hne hF (by omega) (by omega) (by omega)) (va_cwS 1 hts gJ5_append_c97b9_J6_stringSize_0f7a4 rfl rfl rfl (by decide +kernel) ⟨Nat.le_of_ble_eq_true rfl, Nat.le_of_ble_eq_true rfl⟩) ⟨fun a U g mk q => ⟨q.1, sPre.blind hEE q.2⟩, fun U hU hW => ⟨rfl, sPre.of hEE hP hK hE hS (sA.le hv hS.1) hU hW⟩⟩ rfl rfl hl.1 rfl (lv_room (Nat.le_of_ble_eq_true rfl)) dJ5_append_c97b9_7 ⟨Nat.le_of_ble_eq_true rfl, Nat.le_of_ble_eq_true rfl⟩) hS (fun q _ h => sA.le hv hS.1 q h) (sA.le hv hS.1) (fun r1 x t H locs ht hvm hw hB _ _ hS => ?_)
  obtain ⟨hP, hK2, hne2, hv2, hF2⟩ := hB
  rw [ht] at hP
  obtain ⟨rfl, hw⟩ := hw
  clear hK2 hne2 hv2 hF2 ht hvm
  have hP : va_P (dC, dI) vwCl (sw a v cB nb f ml (nI cn)) _ := hP
  obtain ⟨n2, rfl, hf3⟩ := hw
  have hn2a : n2 ≤ 2 := by rw [hf3]; split <;> omega
  refine lv_iadd hx hb dJ5_append_c97b9_10 ?_
  refine zz_top (v := nI (cn + n2)) (nI_add cn n2) ?_
  refine lv_istore_n (lv' := [(3, .int (nI (cn + n2))), (2, .int (nI cn)), (0, .ref a), (1, .int (nI va))]) hx hb dJ5_append_c97b9_11 rfl hl (by decide) rfl (fun ls hl => ?_)
  refine lv_aload_n hx hb dJ5_append_c97b9_12 rfl (lv_at hl 2 rfl) ?_
  refine lv_iload_n hx hb dJ5_append_c97b9_13 rfl (lv_at hl 0 rfl) ?_
  by_cases hgr : (cn + n2) ≤ nb
  · refine va_callv (va_runU (As := [.int (nI (cn + n2))]) (rest := []) ⟨hx, hb, hml, hown, hts⟩ (s_ens0 l dC dI ad E hEE a v cB nb f ml cn _ (cn + n2) hne hF (by omega) (by omega) (by omega) (by omega)) (va_cwU 1 hts gJ5_append_c97b9_J5_ensureCapacityInternal_d00df_u100J4 rfl rfl rfl rfl (by decide +kernel) ⟨Nat.le_of_ble_eq_true rfl, Nat.le_of_ble_eq_true rfl⟩) ⟨fun a U g mk q => ⟨q.1, sPre.blind hEE q.2⟩, va_recv hK hP (ci := 0) (q0 := 0) rfl rfl, fun U hU hW => ⟨rfl, sPre.of hEE hP hK hE hS (sA.le hv hS.1) hU hW⟩⟩ rfl rfl hl.1 rfl (lv_room (Nat.le_of_ble_eq_true rfl)) dJ5_append_c97b9_14 ⟨Nat.le_of_ble_eq_true rfl, Nat.le_of_ble_eq_true rfl⟩) hS (fun q _ h => sA.le hv hS.1 q h) (sA.le hv hS.1) (fun x t H locs ht hvm hw hB _ _ hS => ?_)
    obtain ⟨hP, hK2, hne2, hv2, hF2⟩ := hB
    rw [ht] at hP
    obtain ⟨rfl, hw⟩ := hw
    clear hK2 hne2 hv2 hF2 ht hvm
    have hP : va_P (dC, dI) vwCl (sw a v cB nb f ml (nI cn)) _ := hP
    clear hw
    refine lv_aload_n hx hb dJ5_append_c97b9_17 rfl (lv_at hl 2 rfl) ?_
    refine va_calli (va_runU (As := []) (rest := []) ⟨hx, hb, hml, hown, hts⟩ (s_J5_isLatin1_aae02 l dC dI ad E hEE a v cB nb f ml cn _ hne hF (by omega) (by omega) ) (va_cwU 0 hts gJ5_append_c97b9_J5_isLatin1_aae02_u83J4 rfl rfl rfl rfl (by decide +kernel) ⟨Nat.le_of_ble_eq_true rfl, Nat.le_of_ble_eq_true rfl⟩) ⟨fun a U g mk q => ⟨q.1, sPre.blind hEE q.2⟩, va_recv hK hP (ci := 0) (q0 := 0) rfl rfl, fun U hU hW => ⟨rfl, sPre.of hEE hP hK hE hS (sA.le hv hS.1) hU hW⟩⟩ rfl rfl hl.1 rfl (lv_room (Nat.le_of_ble_eq_true rfl)) dJ5_append_c97b9_18 ⟨Nat.le_of_ble_eq_true rfl, Nat.le_of_ble_eq_true rfl⟩) hS (fun q _ h => sA.le hv hS.1 q h) (sA.le hv hS.1) (fun r5 x t H locs ht hvm hw hB _ _ hS => ?_)
    obtain ⟨hP, hK2, hne2, hv2, hF2⟩ := hB
    rw [ht] at hP
    obtain ⟨rfl, hw⟩ := hw
    clear hK2 hne2 hv2 hF2 ht hvm
    have hP : va_P (dC, dI) vwCl (sw a v cB nb f ml (nI cn)) _ := hP
    obtain rfl := hw
    refine lv_if_eq (tgt := 37) hx hb dJ5_append_c97b9_21 (by decide) (fun cc => absurd cc (by decide)) (fun _ => ?_)
    refine lv_iload_n hx hb dJ5_append_c97b9_24 rfl (lv_at hl 3 rfl) ?_
    refine lv_iload_n hx hb dJ5_append_c97b9_25 rfl (lv_at hl 0 rfl) ?_
    refine lv_aload_n hx hb dJ5_append_c97b9_26 rfl (lv_at hl 2 rfl) ?_
    refine va_get (D := (dC, dI)) (ci := 0) (v := .ref v) (C := RJ4) (T := TJ4) (N := 4) hx hb hts ii_J5_append_c97b9_J4 hown hK hP 0 rfl rfl 0 (by decide) (hts _ mm_J5_append_c97b9_2) (fun _ hh => hh) rfl dJ5_append_c97b9_27 ?_
    refine va_calli (va_runS (As := [.int (nI va), .int (nI (cn + n2)), .ref v]) (rest := []) ⟨hx, hb, hml, hown, hts⟩ (s_J6_getChars_ba4f3 l dC dI ad E hEE a v cB nb f ml cn _ va (cn + n2) hne hF (by omega) (by omega) (by omega) (by omega) (by omega) (by omega)) (va_cwS 3 hts gJ5_append_c97b9_J6_getChars_ba4f3 rfl rfl rfl (by decide +kernel) ⟨Nat.le_of_ble_eq_true rfl, Nat.le_of_ble_eq_true rfl⟩) ⟨fun a U g mk q => ⟨q.1, sPre.blind hEE q.2⟩, fun U hU hW => ⟨rfl, sPre.of hEE hP hK hE hS (sA.le hv hS.1) hU hW⟩⟩ rfl rfl hl.1 rfl (lv_room (Nat.le_of_ble_eq_true rfl)) dJ5_append_c97b9_30 ⟨Nat.le_of_ble_eq_true rfl, Nat.le_of_ble_eq_true rfl⟩) hS (fun q _ h => sA.le hv hS.1 q h) (sA.le hv hS.1) (fun r6 x t H locs ht hvm hw hB _ _ hS => ?_)
    obtain ⟨hP, hK2, hne2, hv2, hF2⟩ := hB
    rw [ht] at hP
    obtain ⟨v7, cB8, nb9, f10, ml11, cn12⟩ := x
    dsimp only at hP hK2 hne2 hv2 hF2 hw
    have hK := va_K.moved hvm.symm hK2
    obtain ⟨rfl, rfl, rfl, rfl, hw⟩ := hw
    have hF := hF2
    clear hK2 hne2 hv2 hF2 ht hvm
    have hP : va_P (dC, dI) vwCl (sw a v cB nb f10 ml11 (nI cn)) _ := hP
    clear hw
    refine lv_pop hx hb dJ5_append_c97b9_33 rfl ?_
    refine lv_goto (tgt := 48) hx hb dJ5_append_c97b9_34 (by decide) ?_
    refine lv_aload_n hx hb dJ5_append_c97b9_48 rfl (lv_at hl 2 rfl) ?_
    refine lv_iload_n hx hb dJ5_append_c97b9_49 rfl (lv_at hl 0 rfl) ?_
    refine va_put (D := (dC, dI)) (ci := 0) (v := .int (nI (cn + n2))) (ty := .int) (C := RJ4) (T := TJ4) (N := 4) hx hb hts ii_J5_append_c97b9_J4 tyJ4 tyJ4_ok nmJ4 hown hK hP (sD hne hv _ _ _ _ _) hS 0 rfl rfl 3 (by decide) (hts _ mm_J5_append_c97b9_1) (fun _ hh => hh) rfl (by decide +kernel) rfl rfl (Nat.le_of_ble_eq_true rfl) dJ5_append_c97b9_50 (fun H locs hP _ hS => ?_)
    have hP : va_P (dC, dI) vwCl (sw a v cB nb f10 ml11 (nI (cn + n2))) H := hP
    refine lv_aload_n hx hb dJ5_append_c97b9_53 rfl (lv_at hl 2 rfl) ?_
    refine W.widen (k := 1) (n := 34) (Nat.le_of_ble_eq_true rfl) (Nat.le_of_ble_eq_true rfl) ?_
    exact W.aret (v := .ref a) hx hb hr (Or.inl ⟨_, rfl⟩) (Or.inr ⟨_, rfl⟩) (fun t ht hW => ⟨⟨(v, cB, nb, f10, ml11, (nI (cn + n2))), a, rfl, trivial, ⟨by show nb = 16 ∨ nb = 34; omega, congrArg nI (show (cn + n2) = (cn + if va < 10 then 1 else 2) by omega), by show (cn + if va < 10 then 1 else 2) ≤ nb; omega, trivial⟩, rfl, sB.of ht hW hP hK hne hv hF⟩, hS.F ht⟩) hS.2.2 dJ5_append_c97b9_54
  · have hnb6 : 16 = nb := by omega
    subst hnb6
    have hP : va_P (dC, dI) vwCl (sw a v cB 16 f ml (nI cn)) _ := hP
    have hS0 := hS
    refine va_callv (va_runU (As := [.int (nI (cn + n2))]) (rest := []) ⟨hx, hb, hml, hown, hts⟩ (s_ens1 l dC dI ad E hEE a v cB f ml cn _ (cn + n2) hne hF (by omega) (by omega) (by omega)) (va_cwU 1 hts gJ5_append_c97b9_J5_ensureCapacityInternal_d00df_u100J4 rfl rfl rfl rfl (by decide +kernel) ⟨Nat.le_of_ble_eq_true rfl, Nat.le_of_ble_eq_true rfl⟩) ⟨fun a U g mk q => ⟨q.1, sPre.blind hEE q.2⟩, va_recv hK hP (ci := 0) (q0 := 0) rfl rfl, fun U hU hW => ⟨rfl, sPre.of hEE hP hK hE hS (sA.le hv hS.1) hU hW⟩⟩ rfl rfl hl.1 rfl (lv_room (Nat.le_of_ble_eq_true rfl)) dJ5_append_c97b9_14 ⟨Nat.le_of_ble_eq_true rfl, Nat.le_of_ble_eq_true rfl⟩) hS (fun q _ h => sA.le hv hS.1 q h) (sA.le hv hS.1) (fun x t H locs ht hvm hw hB _ _ hS => ?_)
    obtain ⟨hP, hK2, hne2, hv2, hF2⟩ := hB
    rw [ht] at hP
    obtain ⟨v14, cB15, nb16, f17, ml18, cn19⟩ := x
    dsimp only at hP hK2 hne2 hv2 hF2 hw
    have hK := va_K.moved hvm.symm hK2
    obtain ⟨hnb9, rfl, hcn9, hw⟩ := hw
    have hv := sv.tr hv hv2 hS0.1
    have hne := hne2
    have hF := hF2
    clear hK2 hne2 hv2 hF2 ht hvm
    have hP : va_P (dC, dI) vwCl (sw a v14 cB15 nb16 f17 ml18 (nI cn)) _ := hP
    clear hw
    refine lv_aload_n hx hb dJ5_append_c97b9_17 rfl (lv_at hl 2 rfl) ?_
    refine va_calli (va_runU (As := []) (rest := []) ⟨hx, hb, hml, hown, hts⟩ (s_J5_isLatin1_aae02 l dC dI ad E hEE a v14 cB15 nb16 f17 ml18 cn _ hne hF (by omega) (by omega) ) (va_cwU 0 hts gJ5_append_c97b9_J5_isLatin1_aae02_u83J4 rfl rfl rfl rfl (by decide +kernel) ⟨Nat.le_of_ble_eq_true rfl, Nat.le_of_ble_eq_true rfl⟩) ⟨fun a U g mk q => ⟨q.1, sPre.blind hEE q.2⟩, va_recv hK hP (ci := 0) (q0 := 0) rfl rfl, fun U hU hW => ⟨rfl, sPre.of hEE hP hK hE hS (sA.le hv hS.1) hU hW⟩⟩ rfl rfl hl.1 rfl (lv_room (Nat.le_of_ble_eq_true rfl)) dJ5_append_c97b9_18 ⟨Nat.le_of_ble_eq_true rfl, Nat.le_of_ble_eq_true rfl⟩) hS (fun q _ h => sA.le hv hS.1 q h) (sA.le hv hS.1) (fun r20 x t H locs ht hvm hw hB _ _ hS => ?_)
    obtain ⟨hP, hK2, hne2, hv2, hF2⟩ := hB
    rw [ht] at hP
    obtain ⟨rfl, hw⟩ := hw
    clear hK2 hne2 hv2 hF2 ht hvm
    have hP : va_P (dC, dI) vwCl (sw a v14 cB15 nb16 f17 ml18 (nI cn)) _ := hP
    obtain rfl := hw
    refine lv_if_eq (tgt := 37) hx hb dJ5_append_c97b9_21 (by decide) (fun cc => absurd cc (by decide)) (fun _ => ?_)
    refine lv_iload_n hx hb dJ5_append_c97b9_24 rfl (lv_at hl 3 rfl) ?_
    refine lv_iload_n hx hb dJ5_append_c97b9_25 rfl (lv_at hl 0 rfl) ?_
    refine lv_aload_n hx hb dJ5_append_c97b9_26 rfl (lv_at hl 2 rfl) ?_
    refine va_get (D := (dC, dI)) (ci := 0) (v := .ref v14) (C := RJ4) (T := TJ4) (N := 4) hx hb hts ii_J5_append_c97b9_J4 hown hK hP 0 rfl rfl 0 (by decide) (hts _ mm_J5_append_c97b9_2) (fun _ hh => hh) rfl dJ5_append_c97b9_27 ?_
    refine va_calli (va_runS (As := [.int (nI va), .int (nI (cn + n2)), .ref v14]) (rest := []) ⟨hx, hb, hml, hown, hts⟩ (s_J6_getChars_ba4f3 l dC dI ad E hEE a v14 cB15 nb16 f17 ml18 cn _ va (cn + n2) hne hF (by omega) (by omega) (by omega) (by omega) (by omega) (by omega)) (va_cwS 3 hts gJ5_append_c97b9_J6_getChars_ba4f3 rfl rfl rfl (by decide +kernel) ⟨Nat.le_of_ble_eq_true rfl, Nat.le_of_ble_eq_true rfl⟩) ⟨fun a U g mk q => ⟨q.1, sPre.blind hEE q.2⟩, fun U hU hW => ⟨rfl, sPre.of hEE hP hK hE hS (sA.le hv hS.1) hU hW⟩⟩ rfl rfl hl.1 rfl (lv_room (Nat.le_of_ble_eq_true rfl)) dJ5_append_c97b9_30 ⟨Nat.le_of_ble_eq_true rfl, Nat.le_of_ble_eq_true rfl⟩) hS (fun q _ h => sA.le hv hS.1 q h) (sA.le hv hS.1) (fun r21 x t H locs ht hvm hw hB _ _ hS => ?_)
    obtain ⟨hP, hK2, hne2, hv2, hF2⟩ := hB
    rw [ht] at hP
    obtain ⟨v22, cB23, nb24, f25, ml26, cn27⟩ := x
    dsimp only at hP hK2 hne2 hv2 hF2 hw
    have hK := va_K.moved hvm.symm hK2
    obtain ⟨rfl, rfl, rfl, rfl, hw⟩ := hw
    have hF := hF2
    clear hK2 hne2 hv2 hF2 ht hvm
    have hP : va_P (dC, dI) vwCl (sw a v14 cB15 nb16 f25 ml26 (nI cn)) _ := hP
    clear hw
    refine lv_pop hx hb dJ5_append_c97b9_33 rfl ?_
    refine lv_goto (tgt := 48) hx hb dJ5_append_c97b9_34 (by decide) ?_
    refine lv_aload_n hx hb dJ5_append_c97b9_48 rfl (lv_at hl 2 rfl) ?_
    refine lv_iload_n hx hb dJ5_append_c97b9_49 rfl (lv_at hl 0 rfl) ?_
    refine va_put (D := (dC, dI)) (ci := 0) (v := .int (nI (cn + n2))) (ty := .int) (C := RJ4) (T := TJ4) (N := 4) hx hb hts ii_J5_append_c97b9_J4 tyJ4 tyJ4_ok nmJ4 hown hK hP (sD hne hv _ _ _ _ _) hS 0 rfl rfl 3 (by decide) (hts _ mm_J5_append_c97b9_1) (fun _ hh => hh) rfl (by decide +kernel) rfl rfl (Nat.le_of_ble_eq_true rfl) dJ5_append_c97b9_50 (fun H locs hP _ hS => ?_)
    have hP : va_P (dC, dI) vwCl (sw a v14 cB15 nb16 f25 ml26 (nI (cn + n2))) H := hP
    refine lv_aload_n hx hb dJ5_append_c97b9_53 rfl (lv_at hl 2 rfl) ?_
    exact W.aret (v := .ref a) hx hb hr (Or.inl ⟨_, rfl⟩) (Or.inr ⟨_, rfl⟩) (fun t ht hW => ⟨⟨(v14, cB15, nb16, f25, ml26, (nI (cn + n2))), a, rfl, trivial, ⟨by show nb16 = 16 ∨ nb16 = 34; omega, congrArg nI (show (cn + n2) = (cn + if va < 10 then 1 else 2) by omega), by show (cn + if va < 10 then 1 else 2) ≤ nb16; omega, trivial⟩, rfl, sB.of ht hW hP hK hne hv hF⟩, hS.F ht⟩) hS.2.2 dJ5_append_c97b9_54
set_option maxHeartbeats 4000000 in
set_option maxRecDepth 100000 in
theorem s_J4_append_bf812 (l : Launch) (dC : Nat → ClassId) (dI : Nat → Nat → Nat) (ad : Nat → Nat) (E : EP) (hEE : EC ad E) (a v : Nat) (cB : ClassId) (nb : Nat) (f : Nat → Int32) (ml : Int32) (cn sz : Nat) (va : Nat) (hne : a ≠ v) (hF : sb_Fit f) (hnb : nb = 16 ∨ nb = 34) (hcn : cn ≤ nb) (hva : va < 24) (hlen : cn + 2 ≤ 34) : Met l yJ4_append_bf812 wsJ4_append_bf812 ({ frames := 5, cells := 1, slots := 34, locals := 114 }) (va_Pc [.ref a, .int (nI va)] (sPre E dC dI a v cB nb f ml (nI cn) sz)) (va_Qr (fun (_ : SU) => True) (fun (x : SU) (r : Nat) (t : State) => ((x.2.2.1 = 16 ∨ x.2.2.1 = 34) ∧ x.2.2.2.2.2 = nI ((cn + if va < 10 then 1 else 2)) ∧ (cn + if va < 10 then 1 else 2) ≤ x.2.2.1 ∧ (True)) ∧ r = a ∧ sB dC dI a v sz x t) (sA a v sz)) 1 34 (sA a v sz) := by
  refine Met.ofW (cc := cJ4_append_bf812) (maxL := 2) (ret := (some (.object "java/lang/StringBuilder"))) (by decide) rfl ?_
  intro p e s m args below meth c s₁ B hml hv
  obtain ⟨rfl, hsz, hP, hK, hE⟩ := hv
  have hx := B.exec
  have hb := B.bytes
  have hr := B.returns
  have hts := atoms_spec (ws := wsJ4_append_bf812) B.pre
  have hown : s.vm.findClass RJ4 = some m.cls := findClass_of_methodNamed B.named
  subst hsz
  have hEv := hEE.1 _ _ _ hE
  have hS : va_S (sA a v s.heap.size) s.heap s.heap [] := va_S.rf
  have hv : v = v ∨ s.heap.size ≤ v := Or.inl rfl
  have hl := lv_entry ([.ref a, .int (nI va)]) (n := 2) (Nat.le_of_ble_eq_true rfl)
  rw [lg_entry_eq]
  generalize (lg_sl ([.ref a, .int (nI va)]) ++ List.replicate (2 - (lg_sl ([.ref a, .int (nI va)])).length) Slot.unset).toArray = ls at hl ⊢
  have hl : lv_has ls 2 [(0, .ref a), (1, .int (nI va))] := hl
  refine lv_aload_n hx hb dJ4_append_bf812_0 rfl (lv_at hl 0 rfl) ?_
  refine lv_iload_n hx hb dJ4_append_bf812_1 rfl (lv_at hl 1 rfl) ?_
  have hS0 := hS
  refine va_callr (va_runSU (hK.1 0 _ rfl).2 (As := [.int (nI va)]) (rest := []) ⟨hx, hb, hml, hown, hts⟩ (s_J5_append_c97b9 l dC dI ad E hEE a v cB nb f ml cn _ va hne hF (by omega) (by omega) (by omega) (by omega)) (va_cwSU 1 hts gJ4_append_bf812_J5_append_c97b9_s53 rfl rfl rfl (by decide +kernel) ⟨Nat.le_of_ble_eq_true rfl, Nat.le_of_ble_eq_true rfl⟩) ⟨fun a U g mk q => ⟨q.1, sPre.blind hEE q.2⟩, va_recv hK hP (ci := 0) (q0 := 0) rfl rfl, fun U hU hW => ⟨rfl, sPre.of hEE hP hK hE hS (sA.le hv hS.1) hU hW⟩⟩ rfl rfl hl.1 rfl (lv_room (Nat.le_of_ble_eq_true rfl)) dJ4_append_bf812_2 ⟨Nat.le_of_ble_eq_true rfl, Nat.le_of_ble_eq_true rfl⟩) hS (fun q _ h => sA.le hv hS.1 q h) (sA.le hv hS.1) (fun x r1 t H locs ht hvm hw hB _ _ hS => ?_)
  obtain ⟨hw, hr9, hB⟩ := hB
  replace hr9 := hr9.symm
  subst hr9
  obtain ⟨hP, hK2, hne2, hv2, hF2⟩ := hB
  rw [ht] at hP
  obtain ⟨v2, cB3, nb4, f5, ml6, cn7⟩ := x
  dsimp only at hP hK2 hne2 hv2 hF2 hw
  have hK := va_K.moved hvm.symm hK2
  obtain ⟨hnb9, rfl, hcn9, hw⟩ := hw
  have hv := sv.tr hv hv2 hS0.1
  have hne := hne2
  have hF := hF2
  clear hK2 hne2 hv2 hF2 ht hvm
  have hP : va_P (dC, dI) vwCl (sw a v2 cB3 nb4 f5 ml6 (nI (cn + if va < 10 then 1 else 2))) _ := hP
  clear hw
  refine lv_pop hx hb dJ4_append_bf812_5 rfl ?_
  refine lv_aload_n hx hb dJ4_append_bf812_6 rfl (lv_at hl 0 rfl) ?_
  exact W.aret (v := .ref a) hx hb hr (Or.inl ⟨_, rfl⟩) (Or.inr ⟨_, rfl⟩) (fun t ht hW => ⟨⟨(v2, cB3, nb4, f5, ml6, (nI (cn + if va < 10 then 1 else 2))), a, rfl, trivial, ⟨by show nb4 = 16 ∨ nb4 = 34; omega, congrArg nI (show (cn + if va < 10 then 1 else 2) = (cn + if va < 10 then 1 else 2) by omega), by show (cn + if va < 10 then 1 else 2) ≤ nb4; omega, trivial⟩, rfl, sB.of ht hW hP hK hne hv hF⟩, hS.F ht⟩) hS.2.2 dJ4_append_bf812_7
