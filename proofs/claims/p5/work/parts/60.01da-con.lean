set_option maxHeartbeats 4000000 in
set_option maxRecDepth 100000 in
theorem x_X11_hoursOf (l : Launch) (dC : Nat → ClassId) (dI : Nat → Nat → Nat) (ad : Nat → Nat) (E : EP) (hEE : EC ad E) (A : Nat → Nat) (C : Nat → ClassId) (nb sz : Nat) (hN : XN A) (st : Nat → Nat → Int32) (sl : Nat → Nat → Int64) (so : Nat → XR) (va : Int32) (vb : Int32) (hI : XI st) : Met l yX11_hoursOf wsX11_hoursOf ({ frames := 0, cells := 0, slots := 0, locals := 0 }) (va_Pc [.int va, .int vb] (xPre E dC dI A C nb sz st sl so)) (va_Qi (fun (r : Int32) (x : XT) => x = (st, sl, so) ∧ (True)) (xB dC dI A C nb) (XA A sz)) 0 0 (XA A sz) := by
  refine Met.ofW (cc := cX11_hoursOf) (maxL := 2) (ret := (some .int)) (by decide) rfl ?_
  intro p e s m args below meth c s₁ B hml hv
  obtain ⟨rfl, hsz, hP, hK, hE⟩ := hv
  have hx := B.exec
  have hb := B.bytes
  have hr := B.returns
  have hts := atoms_spec (ws := wsX11_hoursOf) B.pre
  have hown : s.vm.findClass RX11 = some m.cls := findClass_of_methodNamed B.named
  subst hsz
  have hEv := hEE.1 _ _ _ hE
  have hS : va_S (XA A s.heap.size) s.heap s.heap [] := va_S.rf
  have hG : XG [1, 2, 3, 4, 5, 6, 7, 8, 9, 10, 11, 12, 13, 14, 15] st st := XG.rf hI
  have hl := lv_entry ([.int va, .int vb]) (n := 2) (Nat.le_of_ble_eq_true rfl)
  rw [lg_entry_eq]
  generalize (lg_sl ([.int va, .int vb]) ++ List.replicate (2 - (lg_sl ([.int va, .int vb])).length) Slot.unset).toArray = ls at hl ⊢
  have hl : lv_has ls 2 [(0, .int va), (1, .int vb)] := hl
  clear hI
  refine lv_iconst (v := 1) hx hb dX11_hoursOf_0 (by decide) ?_
  refine lv_iload_n hx hb dX11_hoursOf_1 rfl (lv_at hl 1 rfl) ?_
  refine lv_iconst (v := 1) hx hb dX11_hoursOf_2 (by decide) ?_
  refine lv_iadd hx hb dX11_hoursOf_3 ?_
  refine lv_topi (fun z1 ez1 => ?_)
  clear ez1
  refine lv_ishl hx hb dX11_hoursOf_4 ?_
  refine lv_topi (fun z2 ez2 => ?_)
  clear ez2
  refine lv_iconst (v := 1) hx hb dX11_hoursOf_5 (by decide) ?_
  refine lv_iload_n hx hb dX11_hoursOf_6 rfl (lv_at hl 0 rfl) ?_
  refine lv_ishl hx hb dX11_hoursOf_7 ?_
  refine lv_topi (fun z3 ez3 => ?_)
  clear ez3
  refine lv_isub hx hb dX11_hoursOf_8 ?_
  refine lv_topi (fun z4 ez4 => ?_)
  clear ez4
  exact W.iret (v := z4) hx hb hr (fun t ht hW => ⟨⟨z4, (st, sl, so), rfl, ⟨rfl, trivial⟩, xB.of ht hP⟩, hS.F ht⟩) hS.2.2 dX11_hoursOf_9
set_option maxHeartbeats 4000000 in
set_option maxRecDepth 100000 in
theorem x_J6_bitCount_0f7a4 (l : Launch) (dC : Nat → ClassId) (dI : Nat → Nat → Nat) (ad : Nat → Nat) (E : EP) (hEE : EC ad E) (A : Nat → Nat) (C : Nat → ClassId) (nb sz : Nat) (hN : XN A) (st : Nat → Nat → Int32) (sl : Nat → Nat → Int64) (so : Nat → XR) (va : Int32) (hI : XI st) : Met l yJ6_bitCount_0f7a4 wsJ6_bitCount_0f7a4 ({ frames := 0, cells := 0, slots := 0, locals := 0 }) (va_Pc [.int va] (xPre E dC dI A C nb sz st sl so)) (va_Qi (fun (r : Int32) (x : XT) => x = (st, sl, so) ∧ (True)) (xB dC dI A C nb) (XA A sz)) 0 0 (XA A sz) := by
  refine Met.ofW (cc := cJ6_bitCount_0f7a4) (maxL := 1) (ret := (some .int)) (by decide) rfl ?_
  intro p e s m args below meth c s₁ B hml hv
  obtain ⟨rfl, hsz, hP, hK, hE⟩ := hv
  have hx := B.exec
  have hb := B.bytes
  have hr := B.returns
  have hts := atoms_spec (ws := wsJ6_bitCount_0f7a4) B.pre
  have hown : s.vm.findClass RJ6 = some m.cls := findClass_of_methodNamed B.named
  subst hsz
  have hEv := hEE.1 _ _ _ hE
  have hS : va_S (XA A s.heap.size) s.heap s.heap [] := va_S.rf
  have hG : XG [1, 2, 3, 4, 5, 6, 7, 8, 9, 10, 11, 12, 13, 14, 15] st st := XG.rf hI
  have hl := lv_entry ([.int va]) (n := 1) (Nat.le_of_ble_eq_true rfl)
  rw [lg_entry_eq]
  generalize (lg_sl ([.int va]) ++ List.replicate (1 - (lg_sl ([.int va])).length) Slot.unset).toArray = ls at hl ⊢
  have hl : lv_has ls 1 [(0, .int va)] := hl
  clear hI
  refine lv_iload_n hx hb dJ6_bitCount_0f7a4_0 rfl (lv_at hl 0 rfl) ?_
  refine lv_iload_n hx hb dJ6_bitCount_0f7a4_1 rfl (lv_at hl 0 rfl) ?_
  refine lv_iconst (v := 1) hx hb dJ6_bitCount_0f7a4_2 (by decide) ?_
  refine lv_iushr hx hb dJ6_bitCount_0f7a4_3 rfl ?_
  refine lv_topi (fun z1 ez1 => ?_)
  clear ez1
  refine lv_ldcw (v := 1431655765) hx hb hown (hts _ mm_J6_bitCount_0f7a4_1) dJ6_bitCount_0f7a4_4 ?_
  refine lv_iand hx hb dJ6_bitCount_0f7a4_7 ?_
  refine lv_topi (fun z2 ez2 => ?_)
  clear ez2
  refine lv_isub hx hb dJ6_bitCount_0f7a4_8 ?_
  refine lv_topi (fun z3 ez3 => ?_)
  clear ez3
  refine lv_istore_n (lv' := [(0, .int z3)]) hx hb dJ6_bitCount_0f7a4_9 rfl hl (by decide) rfl (fun ls hl => ?_)
  refine lv_iload_n hx hb dJ6_bitCount_0f7a4_10 rfl (lv_at hl 0 rfl) ?_
  refine lv_ldcw (v := 858993459) hx hb hown (hts _ mm_J6_bitCount_0f7a4_2) dJ6_bitCount_0f7a4_11 ?_
  refine lv_iand hx hb dJ6_bitCount_0f7a4_14 ?_
  refine lv_topi (fun z4 ez4 => ?_)
  clear ez4
  refine lv_iload_n hx hb dJ6_bitCount_0f7a4_15 rfl (lv_at hl 0 rfl) ?_
  refine lv_iconst (v := 2) hx hb dJ6_bitCount_0f7a4_16 (by decide) ?_
  refine lv_iushr hx hb dJ6_bitCount_0f7a4_17 rfl ?_
  refine lv_topi (fun z5 ez5 => ?_)
  clear ez5
  refine lv_ldcw (v := 858993459) hx hb hown (hts _ mm_J6_bitCount_0f7a4_2) dJ6_bitCount_0f7a4_18 ?_
  refine lv_iand hx hb dJ6_bitCount_0f7a4_21 ?_
  refine lv_topi (fun z6 ez6 => ?_)
  clear ez6
  refine lv_iadd hx hb dJ6_bitCount_0f7a4_22 ?_
  refine lv_topi (fun z7 ez7 => ?_)
  clear ez7
  refine lv_istore_n (lv' := [(0, .int z7)]) hx hb dJ6_bitCount_0f7a4_23 rfl hl (by decide) rfl (fun ls hl => ?_)
  refine lv_iload_n hx hb dJ6_bitCount_0f7a4_24 rfl (lv_at hl 0 rfl) ?_
  refine lv_iload_n hx hb dJ6_bitCount_0f7a4_25 rfl (lv_at hl 0 rfl) ?_
  refine lv_iconst (v := 4) hx hb dJ6_bitCount_0f7a4_26 (by decide) ?_
  refine lv_iushr hx hb dJ6_bitCount_0f7a4_27 rfl ?_
  refine lv_topi (fun z8 ez8 => ?_)
  clear ez8
  refine lv_iadd hx hb dJ6_bitCount_0f7a4_28 ?_
  refine lv_topi (fun z9 ez9 => ?_)
  clear ez9
  refine lv_ldcw (v := 252645135) hx hb hown (hts _ mm_J6_bitCount_0f7a4_3) dJ6_bitCount_0f7a4_29 ?_
  refine lv_iand hx hb dJ6_bitCount_0f7a4_32 ?_
  refine lv_topi (fun z10 ez10 => ?_)
  clear ez10
  refine lv_istore_n (lv' := [(0, .int z10)]) hx hb dJ6_bitCount_0f7a4_33 rfl hl (by decide) rfl (fun ls hl => ?_)
  refine lv_iload_n hx hb dJ6_bitCount_0f7a4_34 rfl (lv_at hl 0 rfl) ?_
  refine lv_iload_n hx hb dJ6_bitCount_0f7a4_35 rfl (lv_at hl 0 rfl) ?_
  refine lv_bipush (v := 8) hx hb dJ6_bitCount_0f7a4_36 (by decide) ?_
  refine lv_iushr hx hb dJ6_bitCount_0f7a4_38 rfl ?_
  refine lv_topi (fun z11 ez11 => ?_)
  clear ez11
  refine lv_iadd hx hb dJ6_bitCount_0f7a4_39 ?_
  refine lv_topi (fun z12 ez12 => ?_)
  clear ez12
  refine lv_istore_n (lv' := [(0, .int z12)]) hx hb dJ6_bitCount_0f7a4_40 rfl hl (by decide) rfl (fun ls hl => ?_)
  refine lv_iload_n hx hb dJ6_bitCount_0f7a4_41 rfl (lv_at hl 0 rfl) ?_
  refine lv_iload_n hx hb dJ6_bitCount_0f7a4_42 rfl (lv_at hl 0 rfl) ?_
  refine lv_bipush (v := 16) hx hb dJ6_bitCount_0f7a4_43 (by decide) ?_
  refine lv_iushr hx hb dJ6_bitCount_0f7a4_45 rfl ?_
  refine lv_topi (fun z13 ez13 => ?_)
  clear ez13
  refine lv_iadd hx hb dJ6_bitCount_0f7a4_46 ?_
  refine lv_topi (fun z14 ez14 => ?_)
  clear ez14
  refine lv_istore_n (lv' := [(0, .int z14)]) hx hb dJ6_bitCount_0f7a4_47 rfl hl (by decide) rfl (fun ls hl => ?_)
  refine lv_iload_n hx hb dJ6_bitCount_0f7a4_48 rfl (lv_at hl 0 rfl) ?_
  refine lv_bipush (v := 63) hx hb dJ6_bitCount_0f7a4_49 (by decide) ?_
  refine lv_iand hx hb dJ6_bitCount_0f7a4_51 ?_
  refine lv_topi (fun z15 ez15 => ?_)
  clear ez15
  exact W.iret (v := z15) hx hb hr (fun t ht hW => ⟨⟨z15, (st, sl, so), rfl, ⟨rfl, trivial⟩, xB.of ht hP⟩, hS.F ht⟩) hS.2.2 dJ6_bitCount_0f7a4_52
set_option maxHeartbeats 4000000 in
set_option maxRecDepth 100000 in
theorem x_X6_hours (l : Launch) (dC : Nat → ClassId) (dI : Nat → Nat → Nat) (ad : Nat → Nat) (E : EP) (hEE : EC ad E) (A : Nat → Nat) (C : Nat → ClassId) (nb sz : Nat) (hN : XN A) (st : Nat → Nat → Int32) (sl : Nat → Nat → Int64) (so : Nat → XR) (i ip : Nat) (hi : i < 13) (hip : ip < 8) (hI : XI st) : Met l yX6_hours wsX6_hours ({ frames := 1, cells := 0, slots := 0, locals := 21 }) (va_Pc [.ref (A (36 + 20 * i + (6 + ip)))] (xPre E dC dI A C nb sz st sl so)) (va_Qi (fun (r : Int32) (x : XT) => x = (st, sl, so) ∧ (True)) (xB dC dI A C nb) (XA A sz)) 0 0 (XA A sz) := by
  refine Met.ofW (cc := cX6_hours) (maxL := 1) (ret := (some .int)) (by decide) rfl ?_
  intro p e s m args below meth c s₁ B hml hv
  obtain ⟨rfl, hsz, hP, hK, hE⟩ := hv
  have hx := B.exec
  have hb := B.bytes
  have hr := B.returns
  have hts := atoms_spec (ws := wsX6_hours) B.pre
  have hown : s.vm.findClass RX6 = some m.cls := findClass_of_methodNamed B.named
  subst hsz
  have hEv := hEE.1 _ _ _ hE
  have hS : va_S (XA A s.heap.size) s.heap s.heap [] := va_S.rf
  have hG : XG [1, 2, 3, 4, 5, 6, 7, 8, 9, 10, 11, 12, 13, 14, 15] st st := XG.rf hI
  have hl := lv_entry ([.ref (A (36 + 20 * i + (6 + ip)))]) (n := 1) (Nat.le_of_ble_eq_true rfl)
  rw [lg_entry_eq]
  generalize (lg_sl ([.ref (A (36 + 20 * i + (6 + ip)))]) ++ List.replicate (1 - (lg_sl ([.ref (A (36 + 20 * i + (6 + ip)))])).length) Slot.unset).toArray = ls at hl ⊢
  have hl : lv_has ls 1 [(0, .ref (A (36 + 20 * i + (6 + ip))))] := hl
  clear hI
  refine lv_aload_n hx hb dX6_hours_0 rfl (lv_at hl 0 rfl) ?_
  refine va_get (D := (dC, dI)) (ci := 7) (v := .int (st (36 + 20 * i + (6 + ip)) 2)) (C := RX6) (T := TX6) (N := 9) hx hb hts ii_X6_hours_X6 hown hK hP (36 + 20 * i + (6 + ip)) (xw_is (r := (36 + 20 * i + (6 + ip))) (by omega) (xc_person (i := i) (p := ip) (by omega) (by omega))) rfl 2 (by decide) (hts _ mm_X6_hours_1) (fun _ hh => hh) rfl dX6_hours_1 ?_
  refine lv_topi (fun z1 ez1 => ?_)
  clear ez1
  refine lv_aload_n hx hb dX6_hours_4 rfl (lv_at hl 0 rfl) ?_
  refine va_get (D := (dC, dI)) (ci := 7) (v := .int (st (36 + 20 * i + (6 + ip)) 3)) (C := RX6) (T := TX6) (N := 9) hx hb hts ii_X6_hours_X6 hown hK hP (36 + 20 * i + (6 + ip)) (xw_is (r := (36 + 20 * i + (6 + ip))) (by omega) (xc_person (i := i) (p := ip) (by omega) (by omega))) rfl 3 (by decide) (hts _ mm_X6_hours_2) (fun _ hh => hh) rfl dX6_hours_5 ?_
  refine lv_topi (fun z2 ez2 => ?_)
  clear ez2
  refine va_calli (va_runSN (As := [.int z1, .int z2]) (rest := []) ⟨hx, hb, hml, hown, hts⟩ (x_X11_hoursOf l dC dI ad E hEE A C nb _ hN st sl so z1 z2  hG.1) (⟨va_cnB 2 hts gX6_hours_X11_hoursOf_n38 rfl rfl rfl (nm_X6_38 hEv) (hts _ mm_X6_hours_4) (by decide +kernel) ⟨Nat.le_of_ble_eq_true rfl, Nat.le_of_ble_eq_true rfl⟩, (hts _ mm_X6_hours_3), trivial⟩) ⟨fun a U g mk q => ⟨q.1, xPre.blind hEE q.2⟩, fun U hU hW => ⟨rfl, xPre.of hEE hP hK hE hS hU hW⟩⟩ rfl rfl hl.1 rfl (lv_room (Nat.le_of_ble_eq_true rfl)) dX6_hours_8 ⟨Nat.le_of_ble_eq_true rfl, Nat.le_of_ble_eq_true rfl⟩) hS (fun q _ h => XA.le hS.1 q h) (XA.le hS.1) (fun r3 x t H locs ht hvm hw hB _ _ hS => ?_)
  have hP := xB.at ht hB
  clear hB ht hvm
  obtain ⟨rfl, hw⟩ := hw
  have hP : va_P (dC, dI) vwCl (xw A C nb st sl so) _ := hP
  clear hw
  exact W.iret (v := r3) hx hb hr (fun t ht hW => ⟨⟨r3, (st, sl, so), rfl, ⟨rfl, trivial⟩, xB.of ht hP⟩, hS.F ht⟩) hS.2.2 dX6_hours_11
set_option maxHeartbeats 4000000 in
set_option maxRecDepth 100000 in
theorem x_X6_isDue (l : Launch) (dC : Nat → ClassId) (dI : Nat → Nat → Nat) (ad : Nat → Nat) (E : EP) (hEE : EC ad E) (A : Nat → Nat) (C : Nat → ClassId) (nb sz : Nat) (hN : XN A) (st : Nat → Nat → Int32) (sl : Nat → Nat → Int64) (so : Nat → XR) (i ip : Nat) (va : Int32) (vb : Int32) (hi : i < 13) (hip : ip < 8) (hI : XI st) : Met l yX6_isDue wsX6_isDue ({ frames := 0, cells := 0, slots := 0, locals := 0 }) (va_Pc [.ref (A (36 + 20 * i + (6 + ip))), .int va, .int vb] (xPre E dC dI A C nb sz st sl so)) (va_Qi (fun (r : Int32) (x : XT) => x = (st, sl, so) ∧ ((r = 1) ∨ (r = 0))) (xB dC dI A C nb) (XA A sz)) 0 0 (XA A sz) := by
  refine Met.ofW (cc := cX6_isDue) (maxL := 3) (ret := (some .boolean)) (by decide) rfl ?_
  intro p e s m args below meth c s₁ B hml hv
  obtain ⟨rfl, hsz, hP, hK, hE⟩ := hv
  have hx := B.exec
  have hb := B.bytes
  have hr := B.returns
  have hts := atoms_spec (ws := wsX6_isDue) B.pre
  have hown : s.vm.findClass RX6 = some m.cls := findClass_of_methodNamed B.named
  subst hsz
  have hEv := hEE.1 _ _ _ hE
  have hS : va_S (XA A s.heap.size) s.heap s.heap [] := va_S.rf
  have hG : XG [1, 2, 3, 4, 5, 6, 7, 8, 9, 10, 11, 12, 13, 14, 15] st st := XG.rf hI
  have hl := lv_entry ([.ref (A (36 + 20 * i + (6 + ip))), .int va, .int vb]) (n := 3) (Nat.le_of_ble_eq_true rfl)
  rw [lg_entry_eq]
  generalize (lg_sl ([.ref (A (36 + 20 * i + (6 + ip))), .int va, .int vb]) ++ List.replicate (3 - (lg_sl ([.ref (A (36 + 20 * i + (6 + ip))), .int va, .int vb])).length) Slot.unset).toArray = ls at hl ⊢
  have hl : lv_has ls 3 [(0, .ref (A (36 + 20 * i + (6 + ip)))), (1, .int va), (2, .int vb)] := hl
  clear hI
  refine lv_aload_n hx hb dX6_isDue_0 rfl (lv_at hl 0 rfl) ?_
  refine va_get (D := (dC, dI)) (ci := 7) (v := .int (st (36 + 20 * i + (6 + ip)) 1)) (C := RX6) (T := TX6) (N := 9) hx hb hts ii_X6_isDue_X6 hown hK hP (36 + 20 * i + (6 + ip)) (xw_is (r := (36 + 20 * i + (6 + ip))) (by omega) (xc_person (i := i) (p := ip) (by omega) (by omega))) rfl 1 (by decide) (hts _ mm_X6_isDue_1) (fun _ hh => hh) rfl dX6_isDue_1 ?_
  obtain ⟨n1, hn1, en1⟩ := hG.1.at (r := (36 + 20 * i + (6 + ip))) (k := 1) (b := 5) ((xrg_pe (i := i) (p := ip) (by omega)).trans (by decide)) (by decide)
  refine zz_top (v := nI n1) (by exact en1) ?_
  clear en1
  refine lv_iload_n hx hb dX6_isDue_4 rfl (lv_at hl 1 rfl) ?_
  refine lv_icmp_ne (tgt := 28) hx hb dX6_isDue_5 (by decide) (fun c1 => ?_) (fun c1 => ?_)
  · refine lv_iconst (v := 0) hx hb dX6_isDue_28 (by decide) ?_
    exact W.zret (v := 0) hx hb hr rfl (fun t ht hW => ⟨⟨0, (st, sl, so), rfl, ⟨rfl, Or.inr (rfl)⟩, xB.of ht hP⟩, hS.F ht⟩) hS.2.2 dX6_isDue_29
  · refine lv_aload_n hx hb dX6_isDue_8 rfl (lv_at hl 0 rfl) ?_
    refine va_get (D := (dC, dI)) (ci := 7) (v := .int (st (36 + 20 * i + (6 + ip)) 2)) (C := RX6) (T := TX6) (N := 9) hx hb hts ii_X6_isDue_X6 hown hK hP (36 + 20 * i + (6 + ip)) (xw_is (r := (36 + 20 * i + (6 + ip))) (by omega) (xc_person (i := i) (p := ip) (by omega) (by omega))) rfl 2 (by decide) (hts _ mm_X6_isDue_2) (fun _ hh => hh) rfl dX6_isDue_9 ?_
    refine lv_topi (fun z2 ez2 => ?_)
    clear ez2
    refine lv_iload_n hx hb dX6_isDue_12 rfl (lv_at hl 2 rfl) ?_
    refine lv_icmp_gt (tgt := 28) hx hb dX6_isDue_13 (by decide) (fun c2 => ?_) (fun c2 => ?_)
    · refine lv_iconst (v := 0) hx hb dX6_isDue_28 (by decide) ?_
      exact W.zret (v := 0) hx hb hr rfl (fun t ht hW => ⟨⟨0, (st, sl, so), rfl, ⟨rfl, Or.inr (rfl)⟩, xB.of ht hP⟩, hS.F ht⟩) hS.2.2 dX6_isDue_29
    · refine lv_iload_n hx hb dX6_isDue_16 rfl (lv_at hl 2 rfl) ?_
      refine lv_aload_n hx hb dX6_isDue_17 rfl (lv_at hl 0 rfl) ?_
      refine va_get (D := (dC, dI)) (ci := 7) (v := .int (st (36 + 20 * i + (6 + ip)) 3)) (C := RX6) (T := TX6) (N := 9) hx hb hts ii_X6_isDue_X6 hown hK hP (36 + 20 * i + (6 + ip)) (xw_is (r := (36 + 20 * i + (6 + ip))) (by omega) (xc_person (i := i) (p := ip) (by omega) (by omega))) rfl 3 (by decide) (hts _ mm_X6_isDue_3) (fun _ hh => hh) rfl dX6_isDue_18 ?_
      refine lv_topi (fun z3 ez3 => ?_)
      clear ez3
      refine lv_icmp_gt (tgt := 28) hx hb dX6_isDue_21 (by decide) (fun c3 => ?_) (fun c3 => ?_)
      · refine lv_iconst (v := 0) hx hb dX6_isDue_28 (by decide) ?_
        exact W.zret (v := 0) hx hb hr rfl (fun t ht hW => ⟨⟨0, (st, sl, so), rfl, ⟨rfl, Or.inr (rfl)⟩, xB.of ht hP⟩, hS.F ht⟩) hS.2.2 dX6_isDue_29
      · refine lv_iconst (v := 1) hx hb dX6_isDue_24 (by decide) ?_
        refine lv_goto (tgt := 29) hx hb dX6_isDue_25 (by decide) ?_
        exact W.zret (v := 1) hx hb hr rfl (fun t ht hW => ⟨⟨1, (st, sl, so), rfl, ⟨rfl, Or.inl (rfl)⟩, xB.of ht hP⟩, hS.F ht⟩) hS.2.2 dX6_isDue_29
set_option maxHeartbeats 4000000 in
set_option maxRecDepth 100000 in
theorem x_X4_hasPlace (l : Launch) (dC : Nat → ClassId) (dI : Nat → Nat → Nat) (ad : Nat → Nat) (E : EP) (hEE : EC ad E) (A : Nat → Nat) (C : Nat → ClassId) (nb sz : Nat) (hN : XN A) (st : Nat → Nat → Int32) (sl : Nat → Nat → Int64) (so : Nat → XR) (i : Nat) (va : Int32) (hi : i < 13) (hI : XI st) : Met l yX4_hasPlace wsX4_hasPlace ({ frames := 0, cells := 0, slots := 0, locals := 0 }) (va_Pc [.ref (A (36 + 20 * i)), .int va] (xPre E dC dI A C nb sz st sl so)) (va_Qi (fun (r : Int32) (x : XT) => x = (st, sl, so) ∧ ((∃ n : Nat, r = 1 ∧ n < 5 ∧ va = nI n) ∨ (r = 0))) (xB dC dI A C nb) (XA A sz)) 0 0 (XA A sz) := by
  refine Met.ofW (cc := cX4_hasPlace) (maxL := 2) (ret := (some .boolean)) (by decide) rfl ?_
  intro p e s m args below meth c s₁ B hml hv
  obtain ⟨rfl, hsz, hP, hK, hE⟩ := hv
  have hx := B.exec
  have hb := B.bytes
  have hr := B.returns
  have hts := atoms_spec (ws := wsX4_hasPlace) B.pre
  have hown : s.vm.findClass RX4 = some m.cls := findClass_of_methodNamed B.named
  subst hsz
  have hEv := hEE.1 _ _ _ hE
  have hS : va_S (XA A s.heap.size) s.heap s.heap [] := va_S.rf
  have hG : XG [1, 2, 3, 4, 5, 6, 7, 8, 9, 10, 11, 12, 13, 14, 15] st st := XG.rf hI
  have hl := lv_entry ([.ref (A (36 + 20 * i)), .int va]) (n := 2) (Nat.le_of_ble_eq_true rfl)
  rw [lg_entry_eq]
  generalize (lg_sl ([.ref (A (36 + 20 * i)), .int va]) ++ List.replicate (2 - (lg_sl ([.ref (A (36 + 20 * i)), .int va])).length) Slot.unset).toArray = ls at hl ⊢
  have hl : lv_has ls 2 [(0, .ref (A (36 + 20 * i))), (1, .int va)] := hl
  clear hI
  refine lv_iload_n hx hb dX4_hasPlace_0 rfl (lv_at hl 1 rfl) ?_
  refine lv_if_lt (tgt := 16) hx hb dX4_hasPlace_1 (by decide) (fun c1 => ?_) (fun c1 => ?_)
  · refine lv_iconst (v := 0) hx hb dX4_hasPlace_16 (by decide) ?_
    exact W.zret (v := 0) hx hb hr rfl (fun t ht hW => ⟨⟨0, (st, sl, so), rfl, ⟨rfl, Or.inr (rfl)⟩, xB.of ht hP⟩, hS.F ht⟩) hS.2.2 dX4_hasPlace_17
  · obtain ⟨jn, hjn, rfl⟩ := nI_of c1
    refine lv_iload_n hx hb dX4_hasPlace_4 rfl (lv_at hl 1 rfl) ?_
    refine lv_aload_n hx hb dX4_hasPlace_5 rfl (lv_at hl 0 rfl) ?_
    refine va_get (D := (dC, dI)) (ci := 5) (v := .int (st (36 + 20 * i) 5)) (C := RX4) (T := TX4) (N := 12) hx hb hts ii_X4_hasPlace_X4 hown hK hP (36 + 20 * i) (xw_is (r := (36 + 20 * i)) (by omega) (xc_pk (i := i) (o := 0) (by omega) (by omega))) rfl 5 (by decide) (hts _ mm_X4_hasPlace_1) (fun _ hh => hh) rfl dX4_hasPlace_6 ?_
    obtain ⟨n1, hn1, en1⟩ := hG.1.at (r := (36 + 20 * i)) (k := 5) (b := 6) ((xrg_pk (i := i) (o := 0) (k := 5) (by omega)).trans (by first | rfl | decide)) (by decide)
    refine zz_top (v := nI n1) (by exact en1) ?_
    clear en1
    refine lv_icmp_ge (tgt := 16) hx hb dX4_hasPlace_9 (by decide) (fun c2 => ?_) (fun c2 => ?_)
    · have c2 : n1 ≤ jn := (nI_leI (a := n1) (b := jn) (by omega) (by omega)).mp c2
      refine lv_iconst (v := 0) hx hb dX4_hasPlace_16 (by decide) ?_
      exact W.zret (v := 0) hx hb hr rfl (fun t ht hW => ⟨⟨0, (st, sl, so), rfl, ⟨rfl, Or.inr (rfl)⟩, xB.of ht hP⟩, hS.F ht⟩) hS.2.2 dX4_hasPlace_17
    · have c2 : ¬ n1 ≤ jn := fun hh => c2 ((nI_leI (a := n1) (b := jn) (by omega) (by omega)).mpr hh)
      refine lv_iconst (v := 1) hx hb dX4_hasPlace_12 (by decide) ?_
      refine lv_goto (tgt := 17) hx hb dX4_hasPlace_13 (by decide) ?_
      exact W.zret (v := 1) hx hb hr rfl (fun t ht hW => ⟨⟨1, (st, sl, so), rfl, ⟨rfl, Or.inl ⟨jn, rfl, by omega, rfl⟩⟩, xB.of ht hP⟩, hS.F ht⟩) hS.2.2 dX4_hasPlace_17
set_option maxHeartbeats 4000000 in
set_option maxRecDepth 100000 in
theorem x_X4_hasPerson (l : Launch) (dC : Nat → ClassId) (dI : Nat → Nat → Nat) (ad : Nat → Nat) (E : EP) (hEE : EC ad E) (A : Nat → Nat) (C : Nat → ClassId) (nb sz : Nat) (hN : XN A) (st : Nat → Nat → Int32) (sl : Nat → Nat → Int64) (so : Nat → XR) (i : Nat) (va : Int32) (hi : i < 13) (hI : XI st) : Met l yX4_hasPerson wsX4_hasPerson ({ frames := 0, cells := 0, slots := 0, locals := 0 }) (va_Pc [.ref (A (36 + 20 * i)), .int va] (xPre E dC dI A C nb sz st sl so)) (va_Qi (fun (r : Int32) (x : XT) => x = (st, sl, so) ∧ ((∃ n : Nat, r = 1 ∧ n < 8 ∧ va = nI n) ∨ (r = 0))) (xB dC dI A C nb) (XA A sz)) 0 0 (XA A sz) := by
  refine Met.ofW (cc := cX4_hasPerson) (maxL := 2) (ret := (some .boolean)) (by decide) rfl ?_
  intro p e s m args below meth c s₁ B hml hv
  obtain ⟨rfl, hsz, hP, hK, hE⟩ := hv
  have hx := B.exec
  have hb := B.bytes
  have hr := B.returns
  have hts := atoms_spec (ws := wsX4_hasPerson) B.pre
  have hown : s.vm.findClass RX4 = some m.cls := findClass_of_methodNamed B.named
  subst hsz
  have hEv := hEE.1 _ _ _ hE
  have hS : va_S (XA A s.heap.size) s.heap s.heap [] := va_S.rf
  have hG : XG [1, 2, 3, 4, 5, 6, 7, 8, 9, 10, 11, 12, 13, 14, 15] st st := XG.rf hI
  have hl := lv_entry ([.ref (A (36 + 20 * i)), .int va]) (n := 2) (Nat.le_of_ble_eq_true rfl)
  rw [lg_entry_eq]
  generalize (lg_sl ([.ref (A (36 + 20 * i)), .int va]) ++ List.replicate (2 - (lg_sl ([.ref (A (36 + 20 * i)), .int va])).length) Slot.unset).toArray = ls at hl ⊢
  have hl : lv_has ls 2 [(0, .ref (A (36 + 20 * i))), (1, .int va)] := hl
  clear hI
  refine lv_iload_n hx hb dX4_hasPerson_0 rfl (lv_at hl 1 rfl) ?_
  refine lv_if_lt (tgt := 16) hx hb dX4_hasPerson_1 (by decide) (fun c1 => ?_) (fun c1 => ?_)
  · refine lv_iconst (v := 0) hx hb dX4_hasPerson_16 (by decide) ?_
    exact W.zret (v := 0) hx hb hr rfl (fun t ht hW => ⟨⟨0, (st, sl, so), rfl, ⟨rfl, Or.inr (rfl)⟩, xB.of ht hP⟩, hS.F ht⟩) hS.2.2 dX4_hasPerson_17
  · obtain ⟨jn, hjn, rfl⟩ := nI_of c1
    refine lv_iload_n hx hb dX4_hasPerson_4 rfl (lv_at hl 1 rfl) ?_
    refine lv_aload_n hx hb dX4_hasPerson_5 rfl (lv_at hl 0 rfl) ?_
    refine va_get (D := (dC, dI)) (ci := 5) (v := .int (st (36 + 20 * i) 6)) (C := RX4) (T := TX4) (N := 12) hx hb hts ii_X4_hasPerson_X4 hown hK hP (36 + 20 * i) (xw_is (r := (36 + 20 * i)) (by omega) (xc_pk (i := i) (o := 0) (by omega) (by omega))) rfl 6 (by decide) (hts _ mm_X4_hasPerson_1) (fun _ hh => hh) rfl dX4_hasPerson_6 ?_
    obtain ⟨n1, hn1, en1⟩ := hG.1.at (r := (36 + 20 * i)) (k := 6) (b := 9) ((xrg_pk (i := i) (o := 0) (k := 6) (by omega)).trans (by first | rfl | decide)) (by decide)
    refine zz_top (v := nI n1) (by exact en1) ?_
    clear en1
    refine lv_icmp_ge (tgt := 16) hx hb dX4_hasPerson_9 (by decide) (fun c2 => ?_) (fun c2 => ?_)
    · have c2 : n1 ≤ jn := (nI_leI (a := n1) (b := jn) (by omega) (by omega)).mp c2
      refine lv_iconst (v := 0) hx hb dX4_hasPerson_16 (by decide) ?_
      exact W.zret (v := 0) hx hb hr rfl (fun t ht hW => ⟨⟨0, (st, sl, so), rfl, ⟨rfl, Or.inr (rfl)⟩, xB.of ht hP⟩, hS.F ht⟩) hS.2.2 dX4_hasPerson_17
    · have c2 : ¬ n1 ≤ jn := fun hh => c2 ((nI_leI (a := n1) (b := jn) (by omega) (by omega)).mpr hh)
      refine lv_iconst (v := 1) hx hb dX4_hasPerson_12 (by decide) ?_
      refine lv_goto (tgt := 17) hx hb dX4_hasPerson_13 (by decide) ?_
      exact W.zret (v := 1) hx hb hr rfl (fun t ht hW => ⟨⟨1, (st, sl, so), rfl, ⟨rfl, Or.inl ⟨jn, rfl, by omega, rfl⟩⟩, xB.of ht hP⟩, hS.F ht⟩) hS.2.2 dX4_hasPerson_17
set_option maxHeartbeats 4000000 in
set_option maxRecDepth 100000 in
theorem x_X4_hasDog (l : Launch) (dC : Nat → ClassId) (dI : Nat → Nat → Nat) (ad : Nat → Nat) (E : EP) (hEE : EC ad E) (A : Nat → Nat) (C : Nat → ClassId) (nb sz : Nat) (hN : XN A) (st : Nat → Nat → Int32) (sl : Nat → Nat → Int64) (so : Nat → XR) (i : Nat) (va : Int32) (hi : i < 13) (hI : XI st) : Met l yX4_hasDog wsX4_hasDog ({ frames := 0, cells := 0, slots := 0, locals := 0 }) (va_Pc [.ref (A (36 + 20 * i)), .int va] (xPre E dC dI A C nb sz st sl so)) (va_Qi (fun (r : Int32) (x : XT) => x = (st, sl, so) ∧ ((∃ n : Nat, r = 1 ∧ n < 6 ∧ va = nI n) ∨ (r = 0))) (xB dC dI A C nb) (XA A sz)) 0 0 (XA A sz) := by
  refine Met.ofW (cc := cX4_hasDog) (maxL := 2) (ret := (some .boolean)) (by decide) rfl ?_
  intro p e s m args below meth c s₁ B hml hv
  obtain ⟨rfl, hsz, hP, hK, hE⟩ := hv
  have hx := B.exec
  have hb := B.bytes
  have hr := B.returns
  have hts := atoms_spec (ws := wsX4_hasDog) B.pre
  have hown : s.vm.findClass RX4 = some m.cls := findClass_of_methodNamed B.named
  subst hsz
  have hEv := hEE.1 _ _ _ hE
  have hS : va_S (XA A s.heap.size) s.heap s.heap [] := va_S.rf
  have hG : XG [1, 2, 3, 4, 5, 6, 7, 8, 9, 10, 11, 12, 13, 14, 15] st st := XG.rf hI
  have hl := lv_entry ([.ref (A (36 + 20 * i)), .int va]) (n := 2) (Nat.le_of_ble_eq_true rfl)
  rw [lg_entry_eq]
  generalize (lg_sl ([.ref (A (36 + 20 * i)), .int va]) ++ List.replicate (2 - (lg_sl ([.ref (A (36 + 20 * i)), .int va])).length) Slot.unset).toArray = ls at hl ⊢
  have hl : lv_has ls 2 [(0, .ref (A (36 + 20 * i))), (1, .int va)] := hl
  clear hI
  refine lv_iload_n hx hb dX4_hasDog_0 rfl (lv_at hl 1 rfl) ?_
  refine lv_if_lt (tgt := 16) hx hb dX4_hasDog_1 (by decide) (fun c1 => ?_) (fun c1 => ?_)
  · refine lv_iconst (v := 0) hx hb dX4_hasDog_16 (by decide) ?_
    exact W.zret (v := 0) hx hb hr rfl (fun t ht hW => ⟨⟨0, (st, sl, so), rfl, ⟨rfl, Or.inr (rfl)⟩, xB.of ht hP⟩, hS.F ht⟩) hS.2.2 dX4_hasDog_17
  · obtain ⟨jn, hjn, rfl⟩ := nI_of c1
    refine lv_iload_n hx hb dX4_hasDog_4 rfl (lv_at hl 1 rfl) ?_
    refine lv_aload_n hx hb dX4_hasDog_5 rfl (lv_at hl 0 rfl) ?_
    refine va_get (D := (dC, dI)) (ci := 5) (v := .int (st (36 + 20 * i) 7)) (C := RX4) (T := TX4) (N := 12) hx hb hts ii_X4_hasDog_X4 hown hK hP (36 + 20 * i) (xw_is (r := (36 + 20 * i)) (by omega) (xc_pk (i := i) (o := 0) (by omega) (by omega))) rfl 7 (by decide) (hts _ mm_X4_hasDog_1) (fun _ hh => hh) rfl dX4_hasDog_6 ?_
    obtain ⟨n1, hn1, en1⟩ := hG.1.at (r := (36 + 20 * i)) (k := 7) (b := 7) ((xrg_pk (i := i) (o := 0) (k := 7) (by omega)).trans (by first | rfl | decide)) (by decide)
    refine zz_top (v := nI n1) (by exact en1) ?_
    clear en1
    refine lv_icmp_ge (tgt := 16) hx hb dX4_hasDog_9 (by decide) (fun c2 => ?_) (fun c2 => ?_)
    · have c2 : n1 ≤ jn := (nI_leI (a := n1) (b := jn) (by omega) (by omega)).mp c2
      refine lv_iconst (v := 0) hx hb dX4_hasDog_16 (by decide) ?_
      exact W.zret (v := 0) hx hb hr rfl (fun t ht hW => ⟨⟨0, (st, sl, so), rfl, ⟨rfl, Or.inr (rfl)⟩, xB.of ht hP⟩, hS.F ht⟩) hS.2.2 dX4_hasDog_17
    · have c2 : ¬ n1 ≤ jn := fun hh => c2 ((nI_leI (a := n1) (b := jn) (by omega) (by omega)).mpr hh)
      refine lv_iconst (v := 1) hx hb dX4_hasDog_12 (by decide) ?_
      refine lv_goto (tgt := 17) hx hb dX4_hasDog_13 (by decide) ?_
      exact W.zret (v := 1) hx hb hr rfl (fun t ht hW => ⟨⟨1, (st, sl, so), rfl, ⟨rfl, Or.inl ⟨jn, rfl, by omega, rfl⟩⟩, xB.of ht hP⟩, hS.F ht⟩) hS.2.2 dX4_hasDog_17
set_option maxHeartbeats 4000000 in
set_option maxRecDepth 100000 in
theorem x_X4_comersTo (l : Launch) (dC : Nat → ClassId) (dI : Nat → Nat → Nat) (ad : Nat → Nat) (E : EP) (hEE : EC ad E) (A : Nat → Nat) (C : Nat → ClassId) (nb sz : Nat) (hN : XN A) (st : Nat → Nat → Int32) (sl : Nat → Nat → Int64) (so : Nat → XR) (i : Nat) (va : Int32) (hi : i < 13) (hI : XI st) : Met l yX4_comersTo wsX4_comersTo ({ frames := 0, cells := 0, slots := 0, locals := 0 }) (va_Pc [.ref (A (36 + 20 * i)), .int va] (xPre E dC dI A C nb sz st sl so)) (va_Qi (fun (r : Int32) (x : XT) => x = (st, sl, so) ∧ (True)) (xB dC dI A C nb) (XA A sz)) 0 0 (XA A sz) := by
  refine Met.ofW (cc := cX4_comersTo) (maxL := 4) (ret := (some .int)) (by decide) rfl ?_
  intro p e s m args below meth c s₁ B hml hv
  obtain ⟨rfl, hsz, hP, hK, hE⟩ := hv
  have hx := B.exec
  have hb := B.bytes
  have hr := B.returns
  have hts := atoms_spec (ws := wsX4_comersTo) B.pre
  have hown : s.vm.findClass RX4 = some m.cls := findClass_of_methodNamed B.named
  subst hsz
  have hEv := hEE.1 _ _ _ hE
  have hS : va_S (XA A s.heap.size) s.heap s.heap [] := va_S.rf
  have hG : XG [1, 2, 3, 4, 5, 6, 7, 8, 9, 10, 11, 12, 13, 14, 15] st st := XG.rf hI
  have hl := lv_entry ([.ref (A (36 + 20 * i)), .int va]) (n := 4) (Nat.le_of_ble_eq_true rfl)
  rw [lg_entry_eq]
  generalize (lg_sl ([.ref (A (36 + 20 * i)), .int va]) ++ List.replicate (4 - (lg_sl ([.ref (A (36 + 20 * i)), .int va])).length) Slot.unset).toArray = ls at hl ⊢
  have hl : lv_has ls 4 [(0, .ref (A (36 + 20 * i))), (1, .int va)] := hl
  clear hI
  refine lv_iconst (v := 0) hx hb dX4_comersTo_0 (by decide) ?_
  refine lv_istore_n (lv' := [(2, .int 0), (0, .ref (A (36 + 20 * i))), (1, .int va)]) hx hb dX4_comersTo_1 rfl hl (by decide) rfl (fun ls hl => ?_)
  refine lv_iconst (v := 0) hx hb dX4_comersTo_2 (by decide) ?_
  refine lv_istore_n (lv' := [(3, .int 0), (2, .int 0), (0, .ref (A (36 + 20 * i))), (1, .int va)]) hx hb dX4_comersTo_3 rfl hl (by decide) rfl (fun ls hl => ?_)
  refine zz_wf (fun n stk H locs ls => ∃ k1 : Nat, ∃ z2 : Int32, n = 9 - k1 ∧ 0 ≤ k1 ∧ k1 < 9 ∧ va_P (dC, dI) vwCl (xw A C nb st sl so) H ∧ va_S (XA A s.heap.size) s.heap H locs ∧ lv_has ls 4 [(3, .int (nI k1)), (2, .int z2), (0, .ref (A (36 + 20 * i))), (1, .int va)] ∧ stk = []) ?_ (9 - 0) _ _ _ _ ⟨0, 0, rfl, by omega, by omega, hP, hS, lv_sub hl [0, 1, 2, 3] rfl, rfl⟩
  rintro nn stk H locs ls ⟨k1, z2, hm4, hv3_0, hv4_1, hP, hS, hl, rfl⟩ ih5
  refine lv_iload_n hx hb dX4_comersTo_4 rfl (lv_at hl 0 rfl) ?_
  refine lv_aload_n hx hb dX4_comersTo_5 rfl (lv_at hl 2 rfl) ?_
  refine va_get (D := (dC, dI)) (ci := 5) (v := .int (st (36 + 20 * i) 6)) (C := RX4) (T := TX4) (N := 12) hx hb hts ii_X4_comersTo_X4 hown hK hP (36 + 20 * i) (xw_is (r := (36 + 20 * i)) (by omega) (xc_pk (i := i) (o := 0) (by omega) (by omega))) rfl 6 (by decide) (hts _ mm_X4_comersTo_1) (fun _ hh => hh) rfl dX4_comersTo_6 ?_
  obtain ⟨n6, hn6, en6⟩ := hG.1.at (r := (36 + 20 * i)) (k := 6) (b := 9) ((xrg_pk (i := i) (o := 0) (k := 6) (by omega)).trans (by first | rfl | decide)) (by decide)
  refine zz_top (v := nI n6) (by exact en6) ?_
  clear en6
  refine lv_icmp_ge (tgt := 37) hx hb dX4_comersTo_9 (by decide) (fun c1 => ?_) (fun c1 => ?_)
  · have c1 : n6 ≤ k1 := (nI_leI (a := n6) (b := k1) (by omega) (by omega)).mp c1
    refine lv_iload_n hx hb dX4_comersTo_37 rfl (lv_at hl 1 rfl) ?_
    exact W.iret (v := z2) hx hb hr (fun t ht hW => ⟨⟨z2, (st, sl, so), rfl, ⟨rfl, trivial⟩, xB.of ht hP⟩, hS.F ht⟩) hS.2.2 dX4_comersTo_38
  · have c1 : ¬ n6 ≤ k1 := fun hh => c1 ((nI_leI (a := n6) (b := k1) (by omega) (by omega)).mpr hh)
    refine lv_aload_n hx hb dX4_comersTo_12 rfl (lv_at hl 2 rfl) ?_
    refine va_get (D := (dC, dI)) (ci := 5) (v := .ref (A (36 + 20 * i + 4))) (C := RX4) (T := TX4) (N := 12) hx hb hts ii_X4_comersTo_X4 hown hK hP (36 + 20 * i) (xw_is (r := (36 + 20 * i)) (by omega) (xc_pk (i := i) (o := 0) (by omega) (by omega))) rfl 3 (by decide) (hts _ mm_X4_comersTo_2) (fun _ hh => hh) rfl dX4_comersTo_13 ?_
    refine lv_iload_n hx hb dX4_comersTo_16 rfl (lv_at hl 0 rfl) ?_
    refine va_aldq hx hb hK hP (36 + 20 * i + 4) (36 + 20 * i + 4) (xw_is (r := (36 + 20 * i + 4)) (by omega) (xc_pk (i := i) (o := 4) (by omega) (by omega))) (xt_is (r := (36 + 20 * i + 4)) (by omega) ((xty_pk (i := i) (o := 4) (by omega)).trans rfl)) (i := (nI k1)) (vp_in_nI (by omega) (by decide)) dX4_comersTo_17 ?_
    refine zz_topq (r := some (A (36 + 20 * i + (6 + k1)))) (by rw [nI_clamp (by omega)]; exact congrArg some (congrArg A (by omega))) ?_
    refine va_getN (host := "OffTheLead") (D := (dC, dI)) (ci := 7) (v := .int (st (36 + 20 * i + (6 + k1)) 1)) (C := RX6) (T := TX6) (N := 9) hx hb hts ii_X4_comersTo_X6 hown hK hP (36 + 20 * i + (6 + k1)) (xw_is (r := (36 + 20 * i + (6 + k1))) (by omega) (xc_person (i := i) (p := k1) (by omega) (by omega))) rfl 1 (by decide) (va_Nw.use rfl (nf_X4_97 hEv)) (fun _ hh => hh) rfl dX4_comersTo_18 ?_
    obtain ⟨n7, hn7, en7⟩ := hG.1.at (r := (36 + 20 * i + (6 + k1))) (k := 1) (b := 5) ((xrg_pe (i := i) (p := k1) (by omega)).trans (by decide)) (by decide)
    refine zz_top (v := nI n7) (by exact en7) ?_
    clear en7
    refine lv_iload_n hx hb dX4_comersTo_21 rfl (lv_at hl 3 rfl) ?_
    refine lv_icmp_ne (tgt := 31) hx hb dX4_comersTo_22 (by decide) (fun c2 => ?_) (fun c2 => ?_)
    · refine lv_iinc (v := (nI (k1 + 1))) (lv' := [(3, .int (nI (k1 + 1))), (2, .int z2), (0, .ref (A (36 + 20 * i))), (1, .int va)]) hx hb dX4_comersTo_31 hl (k := 0) rfl (nI_add k1 1) (by decide) rfl (fun ls hl => ?_)
      refine lv_goto (tgt := 4) hx hb dX4_comersTo_34 (by decide) ?_
      exact ih5 (9 - (k1 + 1)) _ _ _ _ (by omega) ⟨(k1 + 1), z2, rfl, by omega, by omega, hP, hS, lv_sub hl [0, 1, 2, 3] rfl, rfl⟩
    · refine lv_iload_n hx hb dX4_comersTo_25 rfl (lv_at hl 1 rfl) ?_
      refine lv_iconst (v := 1) hx hb dX4_comersTo_26 (by decide) ?_
      refine lv_iload_n hx hb dX4_comersTo_27 rfl (lv_at hl 0 rfl) ?_
      refine lv_ishl hx hb dX4_comersTo_28 ?_
      refine lv_topi (fun z8 ez8 => ?_)
      clear ez8
      refine lv_ior hx hb dX4_comersTo_29 ?_
      refine lv_topi (fun z9 ez9 => ?_)
      clear ez9
      refine lv_istore_n (lv' := [(2, .int z9), (3, .int (nI k1)), (0, .ref (A (36 + 20 * i))), (1, .int va)]) hx hb dX4_comersTo_30 rfl hl (by decide) rfl (fun ls hl => ?_)
      refine lv_iinc (v := (nI (k1 + 1))) (lv' := [(3, .int (nI (k1 + 1))), (2, .int z9), (0, .ref (A (36 + 20 * i))), (1, .int va)]) hx hb dX4_comersTo_31 hl (k := 1) rfl (nI_add k1 1) (by decide) rfl (fun ls hl => ?_)
      refine lv_goto (tgt := 4) hx hb dX4_comersTo_34 (by decide) ?_
      exact ih5 (9 - (k1 + 1)) _ _ _ _ (by omega) ⟨(k1 + 1), z9, rfl, by omega, by omega, hP, hS, lv_sub hl [0, 1, 2, 3] rfl, rfl⟩
set_option maxHeartbeats 4000000 in
set_option maxRecDepth 100000 in
theorem x_X4_thoseThere (l : Launch) (dC : Nat → ClassId) (dI : Nat → Nat → Nat) (ad : Nat → Nat) (E : EP) (hEE : EC ad E) (A : Nat → Nat) (C : Nat → ClassId) (nb sz : Nat) (hN : XN A) (st : Nat → Nat → Int32) (sl : Nat → Nat → Int64) (so : Nat → XR) (i : Nat) (va : Int32) (vb : Int32) (hi : i < 13) (hI : XI st) : Met l yX4_thoseThere wsX4_thoseThere ({ frames := 1, cells := 0, slots := 0, locals := 22 }) (va_Pc [.ref (A (36 + 20 * i)), .int va, .int vb] (xPre E dC dI A C nb sz st sl so)) (va_Qi (fun (r : Int32) (x : XT) => x = (st, sl, so) ∧ (True)) (xB dC dI A C nb) (XA A sz)) 0 0 (XA A sz) := by
  refine Met.ofW (cc := cX4_thoseThere) (maxL := 5) (ret := (some .int)) (by decide) rfl ?_
  intro p e s m args below meth c s₁ B hml hv
  obtain ⟨rfl, hsz, hP, hK, hE⟩ := hv
  have hx := B.exec
  have hb := B.bytes
  have hr := B.returns
  have hts := atoms_spec (ws := wsX4_thoseThere) B.pre
  have hown : s.vm.findClass RX4 = some m.cls := findClass_of_methodNamed B.named
  subst hsz
  have hEv := hEE.1 _ _ _ hE
  have hS : va_S (XA A s.heap.size) s.heap s.heap [] := va_S.rf
  have hG : XG [1, 2, 3, 4, 5, 6, 7, 8, 9, 10, 11, 12, 13, 14, 15] st st := XG.rf hI
  have hl := lv_entry ([.ref (A (36 + 20 * i)), .int va, .int vb]) (n := 5) (Nat.le_of_ble_eq_true rfl)
  rw [lg_entry_eq]
  generalize (lg_sl ([.ref (A (36 + 20 * i)), .int va, .int vb]) ++ List.replicate (5 - (lg_sl ([.ref (A (36 + 20 * i)), .int va, .int vb])).length) Slot.unset).toArray = ls at hl ⊢
  have hl : lv_has ls 5 [(0, .ref (A (36 + 20 * i))), (1, .int va), (2, .int vb)] := hl
  clear hI
  refine lv_iconst (v := 0) hx hb dX4_thoseThere_0 (by decide) ?_
  refine lv_istore_n (lv' := [(3, .int 0), (0, .ref (A (36 + 20 * i))), (1, .int va), (2, .int vb)]) hx hb dX4_thoseThere_1 rfl hl (by decide) rfl (fun ls hl => ?_)
  refine lv_iconst (v := 0) hx hb dX4_thoseThere_2 (by decide) ?_
  refine lv_istore (lv' := [(4, .int 0), (3, .int 0), (0, .ref (A (36 + 20 * i))), (1, .int va), (2, .int vb)]) hx hb dX4_thoseThere_3 hl (by decide) rfl (fun ls hl => ?_)
  refine zz_wf (fun n stk H locs ls => ∃ k1 : Nat, ∃ z2 : Int32, n = 9 - k1 ∧ 0 ≤ k1 ∧ k1 < 9 ∧ va_P (dC, dI) vwCl (xw A C nb st sl so) H ∧ va_S (XA A s.heap.size) s.heap H locs ∧ lv_has ls 5 [(4, .int (nI k1)), (3, .int z2), (0, .ref (A (36 + 20 * i))), (1, .int va), (2, .int vb)] ∧ stk = []) ?_ (9 - 0) _ _ _ _ ⟨0, 0, rfl, by omega, by omega, hP, hS, lv_sub hl [0, 1, 2, 3, 4] rfl, rfl⟩
  rintro nn stk H locs ls ⟨k1, z2, hm4, hv3_0, hv4_1, hP, hS, hl, rfl⟩ ih5
  refine lv_iload hx hb dX4_thoseThere_5 (lv_at hl 0 rfl) ?_
  refine lv_aload_n hx hb dX4_thoseThere_7 rfl (lv_at hl 2 rfl) ?_
  refine va_get (D := (dC, dI)) (ci := 5) (v := .int (st (36 + 20 * i) 6)) (C := RX4) (T := TX4) (N := 12) hx hb hts ii_X4_thoseThere_X4 hown hK hP (36 + 20 * i) (xw_is (r := (36 + 20 * i)) (by omega) (xc_pk (i := i) (o := 0) (by omega) (by omega))) rfl 6 (by decide) (hts _ mm_X4_thoseThere_1) (fun _ hh => hh) rfl dX4_thoseThere_8 ?_
  obtain ⟨n6, hn6, en6⟩ := hG.1.at (r := (36 + 20 * i)) (k := 6) (b := 9) ((xrg_pk (i := i) (o := 0) (k := 6) (by omega)).trans (by first | rfl | decide)) (by decide)
  refine zz_top (v := nI n6) (by exact en6) ?_
  clear en6
  refine lv_icmp_ge (tgt := 55) hx hb dX4_thoseThere_11 (by decide) (fun c1 => ?_) (fun c1 => ?_)
  · have c1 : n6 ≤ k1 := (nI_leI (a := n6) (b := k1) (by omega) (by omega)).mp c1
    refine lv_iload_n hx hb dX4_thoseThere_55 rfl (lv_at hl 1 rfl) ?_
    exact W.iret (v := z2) hx hb hr (fun t ht hW => ⟨⟨z2, (st, sl, so), rfl, ⟨rfl, trivial⟩, xB.of ht hP⟩, hS.F ht⟩) hS.2.2 dX4_thoseThere_56
  · have c1 : ¬ n6 ≤ k1 := fun hh => c1 ((nI_leI (a := n6) (b := k1) (by omega) (by omega)).mpr hh)
    refine lv_aload_n hx hb dX4_thoseThere_14 rfl (lv_at hl 2 rfl) ?_
    refine va_get (D := (dC, dI)) (ci := 5) (v := .ref (A (36 + 20 * i + 4))) (C := RX4) (T := TX4) (N := 12) hx hb hts ii_X4_thoseThere_X4 hown hK hP (36 + 20 * i) (xw_is (r := (36 + 20 * i)) (by omega) (xc_pk (i := i) (o := 0) (by omega) (by omega))) rfl 3 (by decide) (hts _ mm_X4_thoseThere_2) (fun _ hh => hh) rfl dX4_thoseThere_15 ?_
    refine lv_iload hx hb dX4_thoseThere_18 (lv_at hl 0 rfl) ?_
    refine va_aldq hx hb hK hP (36 + 20 * i + 4) (36 + 20 * i + 4) (xw_is (r := (36 + 20 * i + 4)) (by omega) (xc_pk (i := i) (o := 4) (by omega) (by omega))) (xt_is (r := (36 + 20 * i + 4)) (by omega) ((xty_pk (i := i) (o := 4) (by omega)).trans rfl)) (i := (nI k1)) (vp_in_nI (by omega) (by decide)) dX4_thoseThere_20 ?_
    refine zz_topq (r := some (A (36 + 20 * i + (6 + k1)))) (by rw [nI_clamp (by omega)]; exact congrArg some (congrArg A (by omega))) ?_
    refine va_getN (host := "OffTheLead") (D := (dC, dI)) (ci := 7) (v := .int (st (36 + 20 * i + (6 + k1)) 5)) (C := RX6) (T := TX6) (N := 9) hx hb hts ii_X4_thoseThere_X6 hown hK hP (36 + 20 * i + (6 + k1)) (xw_is (r := (36 + 20 * i + (6 + k1))) (by omega) (xc_person (i := i) (p := k1) (by omega) (by omega))) rfl 5 (by decide) (va_Nw.use rfl (nf_X4_70 hEv)) (fun _ hh => hh) rfl dX4_thoseThere_21 ?_
    refine lv_topi (fun z7 ez7 => ?_)
    clear ez7
    refine lv_if_ne (tgt := 49) hx hb dX4_thoseThere_24 (by decide) (fun c2 => ?_) (fun c2 => ?_)
    · refine lv_iinc (v := (nI (k1 + 1))) (lv' := [(4, .int (nI (k1 + 1))), (3, .int z2), (0, .ref (A (36 + 20 * i))), (1, .int va), (2, .int vb)]) hx hb dX4_thoseThere_49 hl (k := 0) rfl (nI_add k1 1) (by decide) rfl (fun ls hl => ?_)
      refine lv_goto (tgt := 5) hx hb dX4_thoseThere_52 (by decide) ?_
      exact ih5 (9 - (k1 + 1)) _ _ _ _ (by omega) ⟨(k1 + 1), z2, rfl, by omega, by omega, hP, hS, lv_sub hl [0, 1, 2, 3, 4] rfl, rfl⟩
    · refine lv_aload_n hx hb dX4_thoseThere_27 rfl (lv_at hl 2 rfl) ?_
      refine va_get (D := (dC, dI)) (ci := 5) (v := .ref (A (36 + 20 * i + 4))) (C := RX4) (T := TX4) (N := 12) hx hb hts ii_X4_thoseThere_X4 hown hK hP (36 + 20 * i) (xw_is (r := (36 + 20 * i)) (by omega) (xc_pk (i := i) (o := 0) (by omega) (by omega))) rfl 3 (by decide) (hts _ mm_X4_thoseThere_2) (fun _ hh => hh) rfl dX4_thoseThere_28 ?_
      refine lv_iload hx hb dX4_thoseThere_31 (lv_at hl 0 rfl) ?_
      refine va_aldq hx hb hK hP (36 + 20 * i + 4) (36 + 20 * i + 4) (xw_is (r := (36 + 20 * i + 4)) (by omega) (xc_pk (i := i) (o := 4) (by omega) (by omega))) (xt_is (r := (36 + 20 * i + 4)) (by omega) ((xty_pk (i := i) (o := 4) (by omega)).trans rfl)) (i := (nI k1)) (vp_in_nI (by omega) (by decide)) dX4_thoseThere_33 ?_
      refine zz_topq (r := some (A (36 + 20 * i + (6 + k1)))) (by rw [nI_clamp (by omega)]; exact congrArg some (congrArg A (by omega))) ?_
      refine lv_iload_n hx hb dX4_thoseThere_34 rfl (lv_at hl 3 rfl) ?_
      refine lv_iload_n hx hb dX4_thoseThere_35 rfl (lv_at hl 4 rfl) ?_
      refine va_calli (va_runV (As := [.int va, .int vb]) (rest := []) ⟨hx, hb, hml, hown, hts⟩ (x_X6_isDue l dC dI ad E hEE A C nb _ hN st sl so i k1 va vb (by omega) (by omega) hG.1) (cwV 2 hts gX4_thoseThere_X6_isDue rfl rfl rfl (by decide +kernel) ⟨Nat.le_of_ble_eq_true rfl, Nat.le_of_ble_eq_true rfl⟩) ⟨fun a U g mk q => ⟨q.1, xPre.blind hEE q.2⟩, va_recv hK hP (ci := 7) (q0 := (36 + 20 * i + (6 + k1))) rfl (xw_is (r := (36 + 20 * i + (6 + k1))) (by omega) (xc_person (i := i) (p := k1) (by omega) (by omega))), fun U hU hW => ⟨rfl, xPre.of hEE hP hK hE hS hU hW⟩⟩ rfl rfl hl.1 rfl (lv_room (Nat.le_of_ble_eq_true rfl)) dX4_thoseThere_36 ⟨Nat.le_of_ble_eq_true rfl, Nat.le_of_ble_eq_true rfl⟩) hS (fun q _ h => XA.le hS.1 q h) (XA.le hS.1) (fun r8 x t H locs ht hvm hw hB _ _ hS => ?_)
      have hP := xB.at ht hB
      clear hB ht hvm
      obtain ⟨rfl, hw⟩ := hw
      have hP : va_P (dC, dI) vwCl (xw A C nb st sl so) _ := hP
      rcases hw with rfl | rfl
      · refine lv_if_eq (tgt := 49) hx hb dX4_thoseThere_39 (by decide) (fun cc => absurd cc (by decide)) (fun _ => ?_)
        refine lv_iload_n hx hb dX4_thoseThere_42 rfl (lv_at hl 1 rfl) ?_
        refine lv_iconst (v := 1) hx hb dX4_thoseThere_43 (by decide) ?_
        refine lv_iload hx hb dX4_thoseThere_44 (lv_at hl 0 rfl) ?_
        refine lv_ishl hx hb dX4_thoseThere_46 ?_
        refine lv_topi (fun z9 ez9 => ?_)
        clear ez9
        refine lv_ior hx hb dX4_thoseThere_47 ?_
        refine lv_topi (fun z10 ez10 => ?_)
        clear ez10
        refine lv_istore_n (lv' := [(3, .int z10), (4, .int (nI k1)), (0, .ref (A (36 + 20 * i))), (1, .int va), (2, .int vb)]) hx hb dX4_thoseThere_48 rfl hl (by decide) rfl (fun ls hl => ?_)
        refine lv_iinc (v := (nI (k1 + 1))) (lv' := [(4, .int (nI (k1 + 1))), (3, .int z10), (0, .ref (A (36 + 20 * i))), (1, .int va), (2, .int vb)]) hx hb dX4_thoseThere_49 hl (k := 1) rfl (nI_add k1 1) (by decide) rfl (fun ls hl => ?_)
        refine lv_goto (tgt := 5) hx hb dX4_thoseThere_52 (by decide) ?_
        exact ih5 (9 - (k1 + 1)) _ _ _ _ (by omega) ⟨(k1 + 1), z10, rfl, by omega, by omega, hP, hS, lv_sub hl [0, 1, 2, 3, 4] rfl, rfl⟩
      · refine lv_if_eq (tgt := 49) hx hb dX4_thoseThere_39 (by decide) (fun _ => ?_) (fun cc => absurd (by decide) cc)
        refine lv_iinc (v := (nI (k1 + 1))) (lv' := [(4, .int (nI (k1 + 1))), (3, .int z2), (0, .ref (A (36 + 20 * i))), (1, .int va), (2, .int vb)]) hx hb dX4_thoseThere_49 hl (k := 0) rfl (nI_add k1 1) (by decide) rfl (fun ls hl => ?_)
        refine lv_goto (tgt := 5) hx hb dX4_thoseThere_52 (by decide) ?_
        exact ih5 (9 - (k1 + 1)) _ _ _ _ (by omega) ⟨(k1 + 1), z2, rfl, by omega, by omega, hP, hS, lv_sub hl [0, 1, 2, 3, 4] rfl, rfl⟩
set_option maxHeartbeats 4000000 in
set_option maxRecDepth 100000 in
theorem x_X4_countComers (l : Launch) (dC : Nat → ClassId) (dI : Nat → Nat → Nat) (ad : Nat → Nat) (E : EP) (hEE : EC ad E) (A : Nat → Nat) (C : Nat → ClassId) (nb sz : Nat) (hN : XN A) (st : Nat → Nat → Int32) (sl : Nat → Nat → Int64) (so : Nat → XR) (i : Nat) (va : Int32) (vb : Int32) (vc : Int32) (hi : i < 13) (hI : XI st) : Met l yX4_countComers wsX4_countComers ({ frames := 0, cells := 0, slots := 0, locals := 0 }) (va_Pc [.ref (A (36 + 20 * i)), .int va, .int vb, .int vc] (xPre E dC dI A C nb sz st sl so)) (va_Qi (fun (r : Int32) (x : XT) => x = (st, sl, so) ∧ (True)) (xB dC dI A C nb) (XA A sz)) 0 0 (XA A sz) := by
  refine Met.ofW (cc := cX4_countComers) (maxL := 7) (ret := (some .int)) (by decide) rfl ?_
  intro p e s m args below meth c s₁ B hml hv
  obtain ⟨rfl, hsz, hP, hK, hE⟩ := hv
  have hx := B.exec
  have hb := B.bytes
  have hr := B.returns
  have hts := atoms_spec (ws := wsX4_countComers) B.pre
  have hown : s.vm.findClass RX4 = some m.cls := findClass_of_methodNamed B.named
  subst hsz
  have hEv := hEE.1 _ _ _ hE
  have hS : va_S (XA A s.heap.size) s.heap s.heap [] := va_S.rf
  have hG : XG [1, 2, 3, 4, 5, 6, 7, 8, 9, 10, 11, 12, 13, 14, 15] st st := XG.rf hI
  have hl := lv_entry ([.ref (A (36 + 20 * i)), .int va, .int vb, .int vc]) (n := 7) (Nat.le_of_ble_eq_true rfl)
  rw [lg_entry_eq]
  generalize (lg_sl ([.ref (A (36 + 20 * i)), .int va, .int vb, .int vc]) ++ List.replicate (7 - (lg_sl ([.ref (A (36 + 20 * i)), .int va, .int vb, .int vc])).length) Slot.unset).toArray = ls at hl ⊢
  have hl : lv_has ls 7 [(0, .ref (A (36 + 20 * i))), (1, .int va), (2, .int vb), (3, .int vc)] := hl
  clear hI
  refine lv_iconst (v := 0) hx hb dX4_countComers_0 (by decide) ?_
  refine lv_istore (lv' := [(4, .int 0), (0, .ref (A (36 + 20 * i))), (1, .int va), (2, .int vb), (3, .int vc)]) hx hb dX4_countComers_1 hl (by decide) rfl (fun ls hl => ?_)
  refine lv_iconst (v := 0) hx hb dX4_countComers_3 (by decide) ?_
  refine lv_istore (lv' := [(5, .int 0), (4, .int 0), (0, .ref (A (36 + 20 * i))), (1, .int va), (2, .int vb), (3, .int vc)]) hx hb dX4_countComers_4 hl (by decide) rfl (fun ls hl => ?_)
  refine zz_wf (fun n stk H locs ls => ∃ k1 : Nat, ∃ z2 : Int32, n = 9 - k1 ∧ 0 ≤ k1 ∧ k1 < 9 ∧ va_P (dC, dI) vwCl (xw A C nb st sl so) H ∧ va_S (XA A s.heap.size) s.heap H locs ∧ lv_has ls 7 [(5, .int (nI k1)), (4, .int z2), (0, .ref (A (36 + 20 * i))), (1, .int va), (2, .int vb), (3, .int vc)] ∧ stk = []) ?_ (9 - 0) _ _ _ _ ⟨0, 0, rfl, by omega, by omega, hP, hS, lv_sub hl [0, 1, 2, 3, 4, 5] rfl, rfl⟩
  rintro nn stk H locs ls ⟨k1, z2, hm4, hv3_0, hv4_1, hP, hS, hl, rfl⟩ ih5
  refine lv_iload hx hb dX4_countComers_6 (lv_at hl 0 rfl) ?_
  refine lv_aload_n hx hb dX4_countComers_8 rfl (lv_at hl 2 rfl) ?_
  refine va_get (D := (dC, dI)) (ci := 5) (v := .int (st (36 + 20 * i) 6)) (C := RX4) (T := TX4) (N := 12) hx hb hts ii_X4_countComers_X4 hown hK hP (36 + 20 * i) (xw_is (r := (36 + 20 * i)) (by omega) (xc_pk (i := i) (o := 0) (by omega) (by omega))) rfl 6 (by decide) (hts _ mm_X4_countComers_1) (fun _ hh => hh) rfl dX4_countComers_9 ?_
  obtain ⟨n6, hn6, en6⟩ := hG.1.at (r := (36 + 20 * i)) (k := 6) (b := 9) ((xrg_pk (i := i) (o := 0) (k := 6) (by omega)).trans (by first | rfl | decide)) (by decide)
  refine zz_top (v := nI n6) (by exact en6) ?_
  clear en6
  refine lv_icmp_ge (tgt := 76) hx hb dX4_countComers_12 (by decide) (fun c1 => ?_) (fun c1 => ?_)
  · have c1 : n6 ≤ k1 := (nI_leI (a := n6) (b := k1) (by omega) (by omega)).mp c1
    refine lv_iload hx hb dX4_countComers_76 (lv_at hl 1 rfl) ?_
    exact W.iret (v := z2) hx hb hr (fun t ht hW => ⟨⟨z2, (st, sl, so), rfl, ⟨rfl, trivial⟩, xB.of ht hP⟩, hS.F ht⟩) hS.2.2 dX4_countComers_78
  · have c1 : ¬ n6 ≤ k1 := fun hh => c1 ((nI_leI (a := n6) (b := k1) (by omega) (by omega)).mpr hh)
    refine lv_aload_n hx hb dX4_countComers_15 rfl (lv_at hl 2 rfl) ?_
    refine va_get (D := (dC, dI)) (ci := 5) (v := .ref (A (36 + 20 * i + 4))) (C := RX4) (T := TX4) (N := 12) hx hb hts ii_X4_countComers_X4 hown hK hP (36 + 20 * i) (xw_is (r := (36 + 20 * i)) (by omega) (xc_pk (i := i) (o := 0) (by omega) (by omega))) rfl 3 (by decide) (hts _ mm_X4_countComers_2) (fun _ hh => hh) rfl dX4_countComers_16 ?_
    refine lv_iload hx hb dX4_countComers_19 (lv_at hl 0 rfl) ?_
    refine va_aldq hx hb hK hP (36 + 20 * i + 4) (36 + 20 * i + 4) (xw_is (r := (36 + 20 * i + 4)) (by omega) (xc_pk (i := i) (o := 4) (by omega) (by omega))) (xt_is (r := (36 + 20 * i + 4)) (by omega) ((xty_pk (i := i) (o := 4) (by omega)).trans rfl)) (i := (nI k1)) (vp_in_nI (by omega) (by decide)) dX4_countComers_21 ?_
    refine zz_topq (r := some (A (36 + 20 * i + (6 + k1)))) (by rw [nI_clamp (by omega)]; exact congrArg some (congrArg A (by omega))) ?_
    refine lv_astore (lv' := [(6, .ref (A (36 + 20 * i + (6 + k1)))), (5, .int (nI k1)), (4, .int z2), (0, .ref (A (36 + 20 * i))), (1, .int va), (2, .int vb), (3, .int vc)]) hx hb dX4_countComers_22 hl (by decide) rfl (fun ls hl => ?_)
    refine lv_aload hx hb dX4_countComers_24 (lv_at hl 0 rfl) ?_
    refine va_getN (host := "OffTheLead") (D := (dC, dI)) (ci := 7) (v := .int (st (36 + 20 * i + (6 + k1)) 1)) (C := RX6) (T := TX6) (N := 9) hx hb hts ii_X4_countComers_X6 hown hK hP (36 + 20 * i + (6 + k1)) (xw_is (r := (36 + 20 * i + (6 + k1))) (by omega) (xc_person (i := i) (p := k1) (by omega) (by omega))) rfl 1 (by decide) (va_Nw.use rfl (nf_X4_97 hEv)) (fun _ hh => hh) rfl dX4_countComers_26 ?_
    obtain ⟨n7, hn7, en7⟩ := hG.1.at (r := (36 + 20 * i + (6 + k1))) (k := 1) (b := 5) ((xrg_pe (i := i) (p := k1) (by omega)).trans (by decide)) (by decide)
    refine zz_top (v := nI n7) (by exact en7) ?_
    clear en7
    refine lv_iload_n hx hb dX4_countComers_29 rfl (lv_at hl 4 rfl) ?_
    refine lv_icmp_ne (tgt := 70) hx hb dX4_countComers_30 (by decide) (fun c2 => ?_) (fun c2 => ?_)
    · refine lv_iinc (v := (nI (k1 + 1))) (lv' := [(5, .int (nI (k1 + 1))), (6, .ref (A (36 + 20 * i + (6 + k1)))), (4, .int z2), (0, .ref (A (36 + 20 * i))), (1, .int va), (2, .int vb), (3, .int vc)]) hx hb dX4_countComers_70 hl (k := 1) rfl (nI_add k1 1) (by decide) rfl (fun ls hl => ?_)
      refine lv_goto (tgt := 6) hx hb dX4_countComers_73 (by decide) ?_
      exact ih5 (9 - (k1 + 1)) _ _ _ _ (by omega) ⟨(k1 + 1), z2, rfl, by omega, by omega, hP, hS, lv_sub hl [0, 2, 3, 4, 5, 6] rfl, rfl⟩
    · refine lv_aload hx hb dX4_countComers_33 (lv_at hl 0 rfl) ?_
      refine va_getN (host := "OffTheLead") (D := (dC, dI)) (ci := 7) (v := .int (st (36 + 20 * i + (6 + k1)) 8)) (C := RX6) (T := TX6) (N := 9) hx hb hts ii_X4_countComers_X6 hown hK hP (36 + 20 * i + (6 + k1)) (xw_is (r := (36 + 20 * i + (6 + k1))) (by omega) (xc_person (i := i) (p := k1) (by omega) (by omega))) rfl 8 (by decide) (va_Nw.use rfl (nf_X4_77 hEv)) (fun _ hh => hh) rfl dX4_countComers_35 ?_
      refine lv_topi (fun z8 ez8 => ?_)
      clear ez8
      refine lv_if_eq (tgt := 45) hx hb dX4_countComers_38 (by decide) (fun c3 => ?_) (fun c3 => ?_)
      · refine lv_iconst (v := 0) hx hb dX4_countComers_45 (by decide) ?_
        refine lv_iload_n hx hb dX4_countComers_46 rfl (lv_at hl 5 rfl) ?_
        refine lv_icmp_ne (tgt := 70) hx hb dX4_countComers_47 (by decide) (fun c4 => ?_) (fun c4 => ?_)
        · refine lv_iinc (v := (nI (k1 + 1))) (lv' := [(5, .int (nI (k1 + 1))), (6, .ref (A (36 + 20 * i + (6 + k1)))), (4, .int z2), (0, .ref (A (36 + 20 * i))), (1, .int va), (2, .int vb), (3, .int vc)]) hx hb dX4_countComers_70 hl (k := 1) rfl (nI_add k1 1) (by decide) rfl (fun ls hl => ?_)
          refine lv_goto (tgt := 6) hx hb dX4_countComers_73 (by decide) ?_
          exact ih5 (9 - (k1 + 1)) _ _ _ _ (by omega) ⟨(k1 + 1), z2, rfl, by omega, by omega, hP, hS, lv_sub hl [0, 2, 3, 4, 5, 6] rfl, rfl⟩
        · refine lv_aload hx hb dX4_countComers_50 (lv_at hl 0 rfl) ?_
          refine va_getN (host := "OffTheLead") (D := (dC, dI)) (ci := 7) (v := .int (st (36 + 20 * i + (6 + k1)) 5)) (C := RX6) (T := TX6) (N := 9) hx hb hts ii_X4_countComers_X6 hown hK hP (36 + 20 * i + (6 + k1)) (xw_is (r := (36 + 20 * i + (6 + k1))) (by omega) (xc_person (i := i) (p := k1) (by omega) (by omega))) rfl 5 (by decide) (va_Nw.use rfl (nf_X4_70 hEv)) (fun _ hh => hh) rfl dX4_countComers_52 ?_
          refine lv_topi (fun z9 ez9 => ?_)
          clear ez9
          refine lv_if_le (tgt := 62) hx hb dX4_countComers_55 (by decide) (fun c5 => ?_) (fun c5 => ?_)
          · refine lv_iconst (v := 0) hx hb dX4_countComers_62 (by decide) ?_
            refine lv_iload_n hx hb dX4_countComers_63 rfl (lv_at hl 6 rfl) ?_
            refine lv_icmp_ne (tgt := 70) hx hb dX4_countComers_64 (by decide) (fun c6 => ?_) (fun c6 => ?_)
            · refine lv_iinc (v := (nI (k1 + 1))) (lv' := [(5, .int (nI (k1 + 1))), (6, .ref (A (36 + 20 * i + (6 + k1)))), (4, .int z2), (0, .ref (A (36 + 20 * i))), (1, .int va), (2, .int vb), (3, .int vc)]) hx hb dX4_countComers_70 hl (k := 1) rfl (nI_add k1 1) (by decide) rfl (fun ls hl => ?_)
              refine lv_goto (tgt := 6) hx hb dX4_countComers_73 (by decide) ?_
              exact ih5 (9 - (k1 + 1)) _ _ _ _ (by omega) ⟨(k1 + 1), z2, rfl, by omega, by omega, hP, hS, lv_sub hl [0, 2, 3, 4, 5, 6] rfl, rfl⟩
            · obtain ⟨z10, ez10⟩ : ∃ y : Int32, y = z2 + 1 := ⟨_, rfl⟩
              refine lv_iinc (v := z10) (lv' := [(4, .int z10), (6, .ref (A (36 + 20 * i + (6 + k1)))), (5, .int (nI k1)), (0, .ref (A (36 + 20 * i))), (1, .int va), (2, .int vb), (3, .int vc)]) hx hb dX4_countComers_67 hl (k := 2) rfl (by rw [ez10]; rfl) (by decide) rfl (fun ls hl => ?_)
              refine lv_iinc (v := (nI (k1 + 1))) (lv' := [(5, .int (nI (k1 + 1))), (4, .int z10), (6, .ref (A (36 + 20 * i + (6 + k1)))), (0, .ref (A (36 + 20 * i))), (1, .int va), (2, .int vb), (3, .int vc)]) hx hb dX4_countComers_70 hl (k := 2) rfl (nI_add k1 1) (by decide) rfl (fun ls hl => ?_)
              refine lv_goto (tgt := 6) hx hb dX4_countComers_73 (by decide) ?_
              exact ih5 (9 - (k1 + 1)) _ _ _ _ (by omega) ⟨(k1 + 1), z10, rfl, by omega, by omega, hP, hS, lv_sub hl [0, 1, 3, 4, 5, 6] rfl, rfl⟩
          · refine lv_iconst (v := 1) hx hb dX4_countComers_58 (by decide) ?_
            refine lv_goto (tgt := 63) hx hb dX4_countComers_59 (by decide) ?_
            refine lv_iload_n hx hb dX4_countComers_63 rfl (lv_at hl 6 rfl) ?_
            refine lv_icmp_ne (tgt := 70) hx hb dX4_countComers_64 (by decide) (fun c7 => ?_) (fun c7 => ?_)
            · refine lv_iinc (v := (nI (k1 + 1))) (lv' := [(5, .int (nI (k1 + 1))), (6, .ref (A (36 + 20 * i + (6 + k1)))), (4, .int z2), (0, .ref (A (36 + 20 * i))), (1, .int va), (2, .int vb), (3, .int vc)]) hx hb dX4_countComers_70 hl (k := 1) rfl (nI_add k1 1) (by decide) rfl (fun ls hl => ?_)
              refine lv_goto (tgt := 6) hx hb dX4_countComers_73 (by decide) ?_
              exact ih5 (9 - (k1 + 1)) _ _ _ _ (by omega) ⟨(k1 + 1), z2, rfl, by omega, by omega, hP, hS, lv_sub hl [0, 2, 3, 4, 5, 6] rfl, rfl⟩
            · obtain ⟨z11, ez11⟩ : ∃ y : Int32, y = z2 + 1 := ⟨_, rfl⟩
              refine lv_iinc (v := z11) (lv' := [(4, .int z11), (6, .ref (A (36 + 20 * i + (6 + k1)))), (5, .int (nI k1)), (0, .ref (A (36 + 20 * i))), (1, .int va), (2, .int vb), (3, .int vc)]) hx hb dX4_countComers_67 hl (k := 2) rfl (by rw [ez11]; rfl) (by decide) rfl (fun ls hl => ?_)
              refine lv_iinc (v := (nI (k1 + 1))) (lv' := [(5, .int (nI (k1 + 1))), (4, .int z11), (6, .ref (A (36 + 20 * i + (6 + k1)))), (0, .ref (A (36 + 20 * i))), (1, .int va), (2, .int vb), (3, .int vc)]) hx hb dX4_countComers_70 hl (k := 2) rfl (nI_add k1 1) (by decide) rfl (fun ls hl => ?_)
              refine lv_goto (tgt := 6) hx hb dX4_countComers_73 (by decide) ?_
              exact ih5 (9 - (k1 + 1)) _ _ _ _ (by omega) ⟨(k1 + 1), z11, rfl, by omega, by omega, hP, hS, lv_sub hl [0, 1, 3, 4, 5, 6] rfl, rfl⟩
      · refine lv_iconst (v := 1) hx hb dX4_countComers_41 (by decide) ?_
        refine lv_goto (tgt := 46) hx hb dX4_countComers_42 (by decide) ?_
        refine lv_iload_n hx hb dX4_countComers_46 rfl (lv_at hl 5 rfl) ?_
        refine lv_icmp_ne (tgt := 70) hx hb dX4_countComers_47 (by decide) (fun c8 => ?_) (fun c8 => ?_)
        · refine lv_iinc (v := (nI (k1 + 1))) (lv' := [(5, .int (nI (k1 + 1))), (6, .ref (A (36 + 20 * i + (6 + k1)))), (4, .int z2), (0, .ref (A (36 + 20 * i))), (1, .int va), (2, .int vb), (3, .int vc)]) hx hb dX4_countComers_70 hl (k := 1) rfl (nI_add k1 1) (by decide) rfl (fun ls hl => ?_)
          refine lv_goto (tgt := 6) hx hb dX4_countComers_73 (by decide) ?_
          exact ih5 (9 - (k1 + 1)) _ _ _ _ (by omega) ⟨(k1 + 1), z2, rfl, by omega, by omega, hP, hS, lv_sub hl [0, 2, 3, 4, 5, 6] rfl, rfl⟩
        · refine lv_aload hx hb dX4_countComers_50 (lv_at hl 0 rfl) ?_
          refine va_getN (host := "OffTheLead") (D := (dC, dI)) (ci := 7) (v := .int (st (36 + 20 * i + (6 + k1)) 5)) (C := RX6) (T := TX6) (N := 9) hx hb hts ii_X4_countComers_X6 hown hK hP (36 + 20 * i + (6 + k1)) (xw_is (r := (36 + 20 * i + (6 + k1))) (by omega) (xc_person (i := i) (p := k1) (by omega) (by omega))) rfl 5 (by decide) (va_Nw.use rfl (nf_X4_70 hEv)) (fun _ hh => hh) rfl dX4_countComers_52 ?_
          refine lv_topi (fun z12 ez12 => ?_)
          clear ez12
          refine lv_if_le (tgt := 62) hx hb dX4_countComers_55 (by decide) (fun c9 => ?_) (fun c9 => ?_)
          · refine lv_iconst (v := 0) hx hb dX4_countComers_62 (by decide) ?_
            refine lv_iload_n hx hb dX4_countComers_63 rfl (lv_at hl 6 rfl) ?_
            refine lv_icmp_ne (tgt := 70) hx hb dX4_countComers_64 (by decide) (fun c10 => ?_) (fun c10 => ?_)
            · refine lv_iinc (v := (nI (k1 + 1))) (lv' := [(5, .int (nI (k1 + 1))), (6, .ref (A (36 + 20 * i + (6 + k1)))), (4, .int z2), (0, .ref (A (36 + 20 * i))), (1, .int va), (2, .int vb), (3, .int vc)]) hx hb dX4_countComers_70 hl (k := 1) rfl (nI_add k1 1) (by decide) rfl (fun ls hl => ?_)
              refine lv_goto (tgt := 6) hx hb dX4_countComers_73 (by decide) ?_
              exact ih5 (9 - (k1 + 1)) _ _ _ _ (by omega) ⟨(k1 + 1), z2, rfl, by omega, by omega, hP, hS, lv_sub hl [0, 2, 3, 4, 5, 6] rfl, rfl⟩
            · obtain ⟨z13, ez13⟩ : ∃ y : Int32, y = z2 + 1 := ⟨_, rfl⟩
              refine lv_iinc (v := z13) (lv' := [(4, .int z13), (6, .ref (A (36 + 20 * i + (6 + k1)))), (5, .int (nI k1)), (0, .ref (A (36 + 20 * i))), (1, .int va), (2, .int vb), (3, .int vc)]) hx hb dX4_countComers_67 hl (k := 2) rfl (by rw [ez13]; rfl) (by decide) rfl (fun ls hl => ?_)
              refine lv_iinc (v := (nI (k1 + 1))) (lv' := [(5, .int (nI (k1 + 1))), (4, .int z13), (6, .ref (A (36 + 20 * i + (6 + k1)))), (0, .ref (A (36 + 20 * i))), (1, .int va), (2, .int vb), (3, .int vc)]) hx hb dX4_countComers_70 hl (k := 2) rfl (nI_add k1 1) (by decide) rfl (fun ls hl => ?_)
              refine lv_goto (tgt := 6) hx hb dX4_countComers_73 (by decide) ?_
              exact ih5 (9 - (k1 + 1)) _ _ _ _ (by omega) ⟨(k1 + 1), z13, rfl, by omega, by omega, hP, hS, lv_sub hl [0, 1, 3, 4, 5, 6] rfl, rfl⟩
          · refine lv_iconst (v := 1) hx hb dX4_countComers_58 (by decide) ?_
            refine lv_goto (tgt := 63) hx hb dX4_countComers_59 (by decide) ?_
            refine lv_iload_n hx hb dX4_countComers_63 rfl (lv_at hl 6 rfl) ?_
            refine lv_icmp_ne (tgt := 70) hx hb dX4_countComers_64 (by decide) (fun c11 => ?_) (fun c11 => ?_)
            · refine lv_iinc (v := (nI (k1 + 1))) (lv' := [(5, .int (nI (k1 + 1))), (6, .ref (A (36 + 20 * i + (6 + k1)))), (4, .int z2), (0, .ref (A (36 + 20 * i))), (1, .int va), (2, .int vb), (3, .int vc)]) hx hb dX4_countComers_70 hl (k := 1) rfl (nI_add k1 1) (by decide) rfl (fun ls hl => ?_)
              refine lv_goto (tgt := 6) hx hb dX4_countComers_73 (by decide) ?_
              exact ih5 (9 - (k1 + 1)) _ _ _ _ (by omega) ⟨(k1 + 1), z2, rfl, by omega, by omega, hP, hS, lv_sub hl [0, 2, 3, 4, 5, 6] rfl, rfl⟩
            · obtain ⟨z14, ez14⟩ : ∃ y : Int32, y = z2 + 1 := ⟨_, rfl⟩
              refine lv_iinc (v := z14) (lv' := [(4, .int z14), (6, .ref (A (36 + 20 * i + (6 + k1)))), (5, .int (nI k1)), (0, .ref (A (36 + 20 * i))), (1, .int va), (2, .int vb), (3, .int vc)]) hx hb dX4_countComers_67 hl (k := 2) rfl (by rw [ez14]; rfl) (by decide) rfl (fun ls hl => ?_)
              refine lv_iinc (v := (nI (k1 + 1))) (lv' := [(5, .int (nI (k1 + 1))), (4, .int z14), (6, .ref (A (36 + 20 * i + (6 + k1)))), (0, .ref (A (36 + 20 * i))), (1, .int va), (2, .int vb), (3, .int vc)]) hx hb dX4_countComers_70 hl (k := 2) rfl (nI_add k1 1) (by decide) rfl (fun ls hl => ?_)
              refine lv_goto (tgt := 6) hx hb dX4_countComers_73 (by decide) ?_
              exact ih5 (9 - (k1 + 1)) _ _ _ _ (by omega) ⟨(k1 + 1), z14, rfl, by omega, by omega, hP, hS, lv_sub hl [0, 1, 3, 4, 5, 6] rfl, rfl⟩
set_option maxHeartbeats 4000000 in
set_option maxRecDepth 100000 in
theorem x_X4_awayBits (l : Launch) (dC : Nat → ClassId) (dI : Nat → Nat → Nat) (ad : Nat → Nat) (E : EP) (hEE : EC ad E) (A : Nat → Nat) (C : Nat → ClassId) (nb sz : Nat) (hN : XN A) (st : Nat → Nat → Int32) (sl : Nat → Nat → Int64) (so : Nat → XR) (i : Nat) (hi : i < 13) (hI : XI st) : Met l yX4_awayBits wsX4_awayBits ({ frames := 0, cells := 0, slots := 0, locals := 0 }) (va_Pc [.ref (A (36 + 20 * i))] (xPre E dC dI A C nb sz st sl so)) (va_Qi (fun (r : Int32) (x : XT) => x = (st, sl, so) ∧ (True)) (xB dC dI A C nb) (XA A sz)) 0 0 (XA A sz) := by
  refine Met.ofW (cc := cX4_awayBits) (maxL := 3) (ret := (some .int)) (by decide) rfl ?_
  intro p e s m args below meth c s₁ B hml hv
  obtain ⟨rfl, hsz, hP, hK, hE⟩ := hv
  have hx := B.exec
  have hb := B.bytes
  have hr := B.returns
  have hts := atoms_spec (ws := wsX4_awayBits) B.pre
  have hown : s.vm.findClass RX4 = some m.cls := findClass_of_methodNamed B.named
  subst hsz
  have hEv := hEE.1 _ _ _ hE
  have hS : va_S (XA A s.heap.size) s.heap s.heap [] := va_S.rf
  have hG : XG [1, 2, 3, 4, 5, 6, 7, 8, 9, 10, 11, 12, 13, 14, 15] st st := XG.rf hI
  have hl := lv_entry ([.ref (A (36 + 20 * i))]) (n := 3) (Nat.le_of_ble_eq_true rfl)
  rw [lg_entry_eq]
  generalize (lg_sl ([.ref (A (36 + 20 * i))]) ++ List.replicate (3 - (lg_sl ([.ref (A (36 + 20 * i))])).length) Slot.unset).toArray = ls at hl ⊢
  have hl : lv_has ls 3 [(0, .ref (A (36 + 20 * i)))] := hl
  clear hI
  refine lv_iconst (v := 0) hx hb dX4_awayBits_0 (by decide) ?_
  refine lv_istore_n (lv' := [(1, .int 0), (0, .ref (A (36 + 20 * i)))]) hx hb dX4_awayBits_1 rfl hl (by decide) rfl (fun ls hl => ?_)
  refine lv_iconst (v := 0) hx hb dX4_awayBits_2 (by decide) ?_
  refine lv_istore_n (lv' := [(2, .int 0), (1, .int 0), (0, .ref (A (36 + 20 * i)))]) hx hb dX4_awayBits_3 rfl hl (by decide) rfl (fun ls hl => ?_)
  refine zz_wf (fun n stk H locs ls => ∃ k1 : Nat, ∃ z2 : Int32, n = 9 - k1 ∧ 0 ≤ k1 ∧ k1 < 9 ∧ va_P (dC, dI) vwCl (xw A C nb st sl so) H ∧ va_S (XA A s.heap.size) s.heap H locs ∧ lv_has ls 3 [(2, .int (nI k1)), (1, .int z2), (0, .ref (A (36 + 20 * i)))] ∧ stk = []) ?_ (9 - 0) _ _ _ _ ⟨0, 0, rfl, by omega, by omega, hP, hS, lv_sub hl [0, 1, 2] rfl, rfl⟩
  rintro nn stk H locs ls ⟨k1, z2, hm4, hv3_0, hv4_1, hP, hS, hl, rfl⟩ ih5
  refine lv_iload_n hx hb dX4_awayBits_4 rfl (lv_at hl 0 rfl) ?_
  refine lv_aload_n hx hb dX4_awayBits_5 rfl (lv_at hl 2 rfl) ?_
  refine va_get (D := (dC, dI)) (ci := 5) (v := .int (st (36 + 20 * i) 6)) (C := RX4) (T := TX4) (N := 12) hx hb hts ii_X4_awayBits_X4 hown hK hP (36 + 20 * i) (xw_is (r := (36 + 20 * i)) (by omega) (xc_pk (i := i) (o := 0) (by omega) (by omega))) rfl 6 (by decide) (hts _ mm_X4_awayBits_1) (fun _ hh => hh) rfl dX4_awayBits_6 ?_
  obtain ⟨n6, hn6, en6⟩ := hG.1.at (r := (36 + 20 * i)) (k := 6) (b := 9) ((xrg_pk (i := i) (o := 0) (k := 6) (by omega)).trans (by first | rfl | decide)) (by decide)
  refine zz_top (v := nI n6) (by exact en6) ?_
  clear en6
  refine lv_icmp_ge (tgt := 36) hx hb dX4_awayBits_9 (by decide) (fun c1 => ?_) (fun c1 => ?_)
  · have c1 : n6 ≤ k1 := (nI_leI (a := n6) (b := k1) (by omega) (by omega)).mp c1
    refine lv_iload_n hx hb dX4_awayBits_36 rfl (lv_at hl 1 rfl) ?_
    exact W.iret (v := z2) hx hb hr (fun t ht hW => ⟨⟨z2, (st, sl, so), rfl, ⟨rfl, trivial⟩, xB.of ht hP⟩, hS.F ht⟩) hS.2.2 dX4_awayBits_37
  · have c1 : ¬ n6 ≤ k1 := fun hh => c1 ((nI_leI (a := n6) (b := k1) (by omega) (by omega)).mpr hh)
    refine lv_aload_n hx hb dX4_awayBits_12 rfl (lv_at hl 2 rfl) ?_
    refine va_get (D := (dC, dI)) (ci := 5) (v := .ref (A (36 + 20 * i + 4))) (C := RX4) (T := TX4) (N := 12) hx hb hts ii_X4_awayBits_X4 hown hK hP (36 + 20 * i) (xw_is (r := (36 + 20 * i)) (by omega) (xc_pk (i := i) (o := 0) (by omega) (by omega))) rfl 3 (by decide) (hts _ mm_X4_awayBits_2) (fun _ hh => hh) rfl dX4_awayBits_13 ?_
    refine lv_iload_n hx hb dX4_awayBits_16 rfl (lv_at hl 0 rfl) ?_
    refine va_aldq hx hb hK hP (36 + 20 * i + 4) (36 + 20 * i + 4) (xw_is (r := (36 + 20 * i + 4)) (by omega) (xc_pk (i := i) (o := 4) (by omega) (by omega))) (xt_is (r := (36 + 20 * i + 4)) (by omega) ((xty_pk (i := i) (o := 4) (by omega)).trans rfl)) (i := (nI k1)) (vp_in_nI (by omega) (by decide)) dX4_awayBits_17 ?_
    refine zz_topq (r := some (A (36 + 20 * i + (6 + k1)))) (by rw [nI_clamp (by omega)]; exact congrArg some (congrArg A (by omega))) ?_
    refine va_getN (host := "OffTheLead") (D := (dC, dI)) (ci := 7) (v := .int (st (36 + 20 * i + (6 + k1)) 5)) (C := RX6) (T := TX6) (N := 9) hx hb hts ii_X4_awayBits_X6 hown hK hP (36 + 20 * i + (6 + k1)) (xw_is (r := (36 + 20 * i + (6 + k1))) (by omega) (xc_person (i := i) (p := k1) (by omega) (by omega))) rfl 5 (by decide) (va_Nw.use rfl (nf_X4_70 hEv)) (fun _ hh => hh) rfl dX4_awayBits_18 ?_
    refine lv_topi (fun z7 ez7 => ?_)
    clear ez7
    refine lv_if_le (tgt := 30) hx hb dX4_awayBits_21 (by decide) (fun c2 => ?_) (fun c2 => ?_)
    · refine lv_iinc (v := (nI (k1 + 1))) (lv' := [(2, .int (nI (k1 + 1))), (1, .int z2), (0, .ref (A (36 + 20 * i)))]) hx hb dX4_awayBits_30 hl (k := 0) rfl (nI_add k1 1) (by decide) rfl (fun ls hl => ?_)
      refine lv_goto (tgt := 4) hx hb dX4_awayBits_33 (by decide) ?_
      exact ih5 (9 - (k1 + 1)) _ _ _ _ (by omega) ⟨(k1 + 1), z2, rfl, by omega, by omega, hP, hS, lv_sub hl [0, 1, 2] rfl, rfl⟩
    · refine lv_iload_n hx hb dX4_awayBits_24 rfl (lv_at hl 1 rfl) ?_
      refine lv_iconst (v := 1) hx hb dX4_awayBits_25 (by decide) ?_
      refine lv_iload_n hx hb dX4_awayBits_26 rfl (lv_at hl 0 rfl) ?_
      refine lv_ishl hx hb dX4_awayBits_27 ?_
      refine lv_topi (fun z8 ez8 => ?_)
      clear ez8
      refine lv_ior hx hb dX4_awayBits_28 ?_
      refine lv_topi (fun z9 ez9 => ?_)
      clear ez9
      refine lv_istore_n (lv' := [(1, .int z9), (2, .int (nI k1)), (0, .ref (A (36 + 20 * i)))]) hx hb dX4_awayBits_29 rfl hl (by decide) rfl (fun ls hl => ?_)
      refine lv_iinc (v := (nI (k1 + 1))) (lv' := [(2, .int (nI (k1 + 1))), (1, .int z9), (0, .ref (A (36 + 20 * i)))]) hx hb dX4_awayBits_30 hl (k := 1) rfl (nI_add k1 1) (by decide) rfl (fun ls hl => ?_)
      refine lv_goto (tgt := 4) hx hb dX4_awayBits_33 (by decide) ?_
      exact ih5 (9 - (k1 + 1)) _ _ _ _ (by omega) ⟨(k1 + 1), z9, rfl, by omega, by omega, hP, hS, lv_sub hl [0, 1, 2] rfl, rfl⟩
set_option maxHeartbeats 4000000 in
set_option maxRecDepth 100000 in
theorem x_X4_heldBits (l : Launch) (dC : Nat → ClassId) (dI : Nat → Nat → Nat) (ad : Nat → Nat) (E : EP) (hEE : EC ad E) (A : Nat → Nat) (C : Nat → ClassId) (nb sz : Nat) (hN : XN A) (st : Nat → Nat → Int32) (sl : Nat → Nat → Int64) (so : Nat → XR) (i : Nat) (hi : i < 13) (hI : XI st) : Met l yX4_heldBits wsX4_heldBits ({ frames := 0, cells := 0, slots := 0, locals := 0 }) (va_Pc [.ref (A (36 + 20 * i))] (xPre E dC dI A C nb sz st sl so)) (va_Qi (fun (r : Int32) (x : XT) => x = (st, sl, so) ∧ (True)) (xB dC dI A C nb) (XA A sz)) 0 0 (XA A sz) := by
  refine Met.ofW (cc := cX4_heldBits) (maxL := 3) (ret := (some .int)) (by decide) rfl ?_
  intro p e s m args below meth c s₁ B hml hv
  obtain ⟨rfl, hsz, hP, hK, hE⟩ := hv
  have hx := B.exec
  have hb := B.bytes
  have hr := B.returns
  have hts := atoms_spec (ws := wsX4_heldBits) B.pre
  have hown : s.vm.findClass RX4 = some m.cls := findClass_of_methodNamed B.named
  subst hsz
  have hEv := hEE.1 _ _ _ hE
  have hS : va_S (XA A s.heap.size) s.heap s.heap [] := va_S.rf
  have hG : XG [1, 2, 3, 4, 5, 6, 7, 8, 9, 10, 11, 12, 13, 14, 15] st st := XG.rf hI
  have hl := lv_entry ([.ref (A (36 + 20 * i))]) (n := 3) (Nat.le_of_ble_eq_true rfl)
  rw [lg_entry_eq]
  generalize (lg_sl ([.ref (A (36 + 20 * i))]) ++ List.replicate (3 - (lg_sl ([.ref (A (36 + 20 * i))])).length) Slot.unset).toArray = ls at hl ⊢
  have hl : lv_has ls 3 [(0, .ref (A (36 + 20 * i)))] := hl
  clear hI
  refine lv_iconst (v := 0) hx hb dX4_heldBits_0 (by decide) ?_
  refine lv_istore_n (lv' := [(1, .int 0), (0, .ref (A (36 + 20 * i)))]) hx hb dX4_heldBits_1 rfl hl (by decide) rfl (fun ls hl => ?_)
  refine lv_iconst (v := 0) hx hb dX4_heldBits_2 (by decide) ?_
  refine lv_istore_n (lv' := [(2, .int 0), (1, .int 0), (0, .ref (A (36 + 20 * i)))]) hx hb dX4_heldBits_3 rfl hl (by decide) rfl (fun ls hl => ?_)
  refine zz_wf (fun n stk H locs ls => ∃ k1 : Nat, ∃ z2 : Int32, n = 7 - k1 ∧ 0 ≤ k1 ∧ k1 < 7 ∧ va_P (dC, dI) vwCl (xw A C nb st sl so) H ∧ va_S (XA A s.heap.size) s.heap H locs ∧ lv_has ls 3 [(2, .int (nI k1)), (1, .int z2), (0, .ref (A (36 + 20 * i)))] ∧ stk = []) ?_ (7 - 0) _ _ _ _ ⟨0, 0, rfl, by omega, by omega, hP, hS, lv_sub hl [0, 1, 2] rfl, rfl⟩
  rintro nn stk H locs ls ⟨k1, z2, hm4, hv3_0, hv4_1, hP, hS, hl, rfl⟩ ih5
  refine lv_iload_n hx hb dX4_heldBits_4 rfl (lv_at hl 0 rfl) ?_
  refine lv_aload_n hx hb dX4_heldBits_5 rfl (lv_at hl 2 rfl) ?_
  refine va_get (D := (dC, dI)) (ci := 5) (v := .int (st (36 + 20 * i) 7)) (C := RX4) (T := TX4) (N := 12) hx hb hts ii_X4_heldBits_X4 hown hK hP (36 + 20 * i) (xw_is (r := (36 + 20 * i)) (by omega) (xc_pk (i := i) (o := 0) (by omega) (by omega))) rfl 7 (by decide) (hts _ mm_X4_heldBits_1) (fun _ hh => hh) rfl dX4_heldBits_6 ?_
  obtain ⟨n6, hn6, en6⟩ := hG.1.at (r := (36 + 20 * i)) (k := 7) (b := 7) ((xrg_pk (i := i) (o := 0) (k := 7) (by omega)).trans (by first | rfl | decide)) (by decide)
  refine zz_top (v := nI n6) (by exact en6) ?_
  clear en6
  refine lv_icmp_ge (tgt := 36) hx hb dX4_heldBits_9 (by decide) (fun c1 => ?_) (fun c1 => ?_)
  · have c1 : n6 ≤ k1 := (nI_leI (a := n6) (b := k1) (by omega) (by omega)).mp c1
    refine lv_iload_n hx hb dX4_heldBits_36 rfl (lv_at hl 1 rfl) ?_
    exact W.iret (v := z2) hx hb hr (fun t ht hW => ⟨⟨z2, (st, sl, so), rfl, ⟨rfl, trivial⟩, xB.of ht hP⟩, hS.F ht⟩) hS.2.2 dX4_heldBits_37
  · have c1 : ¬ n6 ≤ k1 := fun hh => c1 ((nI_leI (a := n6) (b := k1) (by omega) (by omega)).mpr hh)
    refine lv_aload_n hx hb dX4_heldBits_12 rfl (lv_at hl 2 rfl) ?_
    refine va_get (D := (dC, dI)) (ci := 5) (v := .ref (A (36 + 20 * i + 5))) (C := RX4) (T := TX4) (N := 12) hx hb hts ii_X4_heldBits_X4 hown hK hP (36 + 20 * i) (xw_is (r := (36 + 20 * i)) (by omega) (xc_pk (i := i) (o := 0) (by omega) (by omega))) rfl 4 (by decide) (hts _ mm_X4_heldBits_2) (fun _ hh => hh) rfl dX4_heldBits_13 ?_
    refine lv_iload_n hx hb dX4_heldBits_16 rfl (lv_at hl 0 rfl) ?_
    refine va_aldq hx hb hK hP (36 + 20 * i + 5) (36 + 20 * i + 5) (xw_is (r := (36 + 20 * i + 5)) (by omega) (xc_pk (i := i) (o := 5) (by omega) (by omega))) (xt_is (r := (36 + 20 * i + 5)) (by omega) ((xty_pk (i := i) (o := 5) (by omega)).trans rfl)) (i := (nI k1)) (vp_in_nI (by omega) (by decide)) dX4_heldBits_17 ?_
    refine zz_topq (r := some (A (36 + 20 * i + (14 + k1)))) (by rw [nI_clamp (by omega)]; exact congrArg some (congrArg A (by omega))) ?_
    refine va_getN (host := "OffTheLead") (D := (dC, dI)) (ci := 3) (v := .int (st (36 + 20 * i + (14 + k1)) 4)) (C := RX2) (T := TX2) (N := 7) hx hb hts ii_X4_heldBits_X2 hown hK hP (36 + 20 * i + (14 + k1)) (xw_is (r := (36 + 20 * i + (14 + k1))) (by omega) (xc_dog (i := i) (p := k1) (by omega) (by omega))) rfl 4 (by decide) (va_Nw.use rfl (nf_X4_83 hEv)) (fun _ hh => hh) rfl dX4_heldBits_18 ?_
    obtain ⟨n7, hn7, en7⟩ := hG.1.at (r := (36 + 20 * i + (14 + k1))) (k := 4) (b := 2) ((xrg_do (i := i) (p := k1) (by omega)).trans (by decide)) (by decide)
    refine zz_top (v := nI n7) (by exact en7) ?_
    clear en7
    refine lv_if_eq (tgt := 30) hx hb dX4_heldBits_21 (by decide) (fun c2 => ?_) (fun c2 => ?_)
    · have c2 : n7 = 0 := (nI_eq (a := n7) (b := 0) (by omega) (by omega)).mp c2
      refine lv_iinc (v := (nI (k1 + 1))) (lv' := [(2, .int (nI (k1 + 1))), (1, .int z2), (0, .ref (A (36 + 20 * i)))]) hx hb dX4_heldBits_30 hl (k := 0) rfl (nI_add k1 1) (by decide) rfl (fun ls hl => ?_)
      refine lv_goto (tgt := 4) hx hb dX4_heldBits_33 (by decide) ?_
      exact ih5 (7 - (k1 + 1)) _ _ _ _ (by omega) ⟨(k1 + 1), z2, rfl, by omega, by omega, hP, hS, lv_sub hl [0, 1, 2] rfl, rfl⟩
    · have c2 : ¬ n7 = 0 := fun hh => c2 ((nI_eq (a := n7) (b := 0) (by omega) (by omega)).mpr hh)
      refine lv_iload_n hx hb dX4_heldBits_24 rfl (lv_at hl 1 rfl) ?_
      refine lv_iconst (v := 1) hx hb dX4_heldBits_25 (by decide) ?_
      refine lv_iload_n hx hb dX4_heldBits_26 rfl (lv_at hl 0 rfl) ?_
      refine lv_ishl hx hb dX4_heldBits_27 ?_
      refine lv_topi (fun z8 ez8 => ?_)
      clear ez8
      refine lv_ior hx hb dX4_heldBits_28 ?_
      refine lv_topi (fun z9 ez9 => ?_)
      clear ez9
      refine lv_istore_n (lv' := [(1, .int z9), (2, .int (nI k1)), (0, .ref (A (36 + 20 * i)))]) hx hb dX4_heldBits_29 rfl hl (by decide) rfl (fun ls hl => ?_)
      refine lv_iinc (v := (nI (k1 + 1))) (lv' := [(2, .int (nI (k1 + 1))), (1, .int z9), (0, .ref (A (36 + 20 * i)))]) hx hb dX4_heldBits_30 hl (k := 1) rfl (nI_add k1 1) (by decide) rfl (fun ls hl => ?_)
      refine lv_goto (tgt := 4) hx hb dX4_heldBits_33 (by decide) ?_
      exact ih5 (7 - (k1 + 1)) _ _ _ _ (by omega) ⟨(k1 + 1), z9, rfl, by omega, by omega, hP, hS, lv_sub hl [0, 1, 2] rfl, rfl⟩
set_option maxHeartbeats 4000000 in
set_option maxRecDepth 100000 in
theorem x_X4_dogBits (l : Launch) (dC : Nat → ClassId) (dI : Nat → Nat → Nat) (ad : Nat → Nat) (E : EP) (hEE : EC ad E) (A : Nat → Nat) (C : Nat → ClassId) (nb sz : Nat) (hN : XN A) (st : Nat → Nat → Int32) (sl : Nat → Nat → Int64) (so : Nat → XR) (i : Nat) (hi : i < 13) (hI : XI st) : Met l yX4_dogBits wsX4_dogBits ({ frames := 0, cells := 0, slots := 0, locals := 0 }) (va_Pc [.ref (A (36 + 20 * i))] (xPre E dC dI A C nb sz st sl so)) (va_Qi (fun (r : Int32) (x : XT) => x = (st, sl, so) ∧ (True)) (xB dC dI A C nb) (XA A sz)) 0 0 (XA A sz) := by
  refine Met.ofW (cc := cX4_dogBits) (maxL := 1) (ret := (some .int)) (by decide) rfl ?_
  intro p e s m args below meth c s₁ B hml hv
  obtain ⟨rfl, hsz, hP, hK, hE⟩ := hv
  have hx := B.exec
  have hb := B.bytes
  have hr := B.returns
  have hts := atoms_spec (ws := wsX4_dogBits) B.pre
  have hown : s.vm.findClass RX4 = some m.cls := findClass_of_methodNamed B.named
  subst hsz
  have hEv := hEE.1 _ _ _ hE
  have hS : va_S (XA A s.heap.size) s.heap s.heap [] := va_S.rf
  have hG : XG [1, 2, 3, 4, 5, 6, 7, 8, 9, 10, 11, 12, 13, 14, 15] st st := XG.rf hI
  have hl := lv_entry ([.ref (A (36 + 20 * i))]) (n := 1) (Nat.le_of_ble_eq_true rfl)
  rw [lg_entry_eq]
  generalize (lg_sl ([.ref (A (36 + 20 * i))]) ++ List.replicate (1 - (lg_sl ([.ref (A (36 + 20 * i))])).length) Slot.unset).toArray = ls at hl ⊢
  have hl : lv_has ls 1 [(0, .ref (A (36 + 20 * i)))] := hl
  clear hI
  refine lv_iconst (v := 1) hx hb dX4_dogBits_0 (by decide) ?_
  refine lv_aload_n hx hb dX4_dogBits_1 rfl (lv_at hl 0 rfl) ?_
  refine va_get (D := (dC, dI)) (ci := 5) (v := .int (st (36 + 20 * i) 7)) (C := RX4) (T := TX4) (N := 12) hx hb hts ii_X4_dogBits_X4 hown hK hP (36 + 20 * i) (xw_is (r := (36 + 20 * i)) (by omega) (xc_pk (i := i) (o := 0) (by omega) (by omega))) rfl 7 (by decide) (hts _ mm_X4_dogBits_1) (fun _ hh => hh) rfl dX4_dogBits_2 ?_
  obtain ⟨n1, hn1, en1⟩ := hG.1.at (r := (36 + 20 * i)) (k := 7) (b := 7) ((xrg_pk (i := i) (o := 0) (k := 7) (by omega)).trans (by first | rfl | decide)) (by decide)
  refine zz_top (v := nI n1) (by exact en1) ?_
  clear en1
  refine lv_ishl hx hb dX4_dogBits_5 ?_
  refine lv_topi (fun z2 ez2 => ?_)
  clear ez2
  refine lv_iconst (v := 1) hx hb dX4_dogBits_6 (by decide) ?_
  refine lv_isub hx hb dX4_dogBits_7 ?_
  refine lv_topi (fun z3 ez3 => ?_)
  clear ez3
  exact W.iret (v := z3) hx hb hr (fun t ht hW => ⟨⟨z3, (st, sl, so), rfl, ⟨rfl, trivial⟩, xB.of ht hP⟩, hS.F ht⟩) hS.2.2 dX4_dogBits_8
set_option maxHeartbeats 4000000 in
set_option maxRecDepth 100000 in
theorem x_X4_dogsComing (l : Launch) (dC : Nat → ClassId) (dI : Nat → Nat → Nat) (ad : Nat → Nat) (E : EP) (hEE : EC ad E) (A : Nat → Nat) (C : Nat → ClassId) (nb sz : Nat) (hN : XN A) (st : Nat → Nat → Int32) (sl : Nat → Nat → Int64) (so : Nat → XR) (i : Nat) (va : Int32) (vb : Int32) (hi : i < 13) (hI : XI st) : Met l yX4_dogsComing wsX4_dogsComing ({ frames := 1, cells := 0, slots := 0, locals := 22 }) (va_Pc [.ref (A (36 + 20 * i)), .int va, .int vb] (xPre E dC dI A C nb sz st sl so)) (va_Qi (fun (r : Int32) (x : XT) => x = (st, sl, so) ∧ (True)) (xB dC dI A C nb) (XA A sz)) 0 0 (XA A sz) := by
  refine Met.ofW (cc := cX4_dogsComing) (maxL := 5) (ret := (some .int)) (by decide) rfl ?_
  intro p e s m args below meth c s₁ B hml hv
  obtain ⟨rfl, hsz, hP, hK, hE⟩ := hv
  have hx := B.exec
  have hb := B.bytes
  have hr := B.returns
  have hts := atoms_spec (ws := wsX4_dogsComing) B.pre
  have hown : s.vm.findClass RX4 = some m.cls := findClass_of_methodNamed B.named
  subst hsz
  have hEv := hEE.1 _ _ _ hE
  have hS : va_S (XA A s.heap.size) s.heap s.heap [] := va_S.rf
  have hG : XG [1, 2, 3, 4, 5, 6, 7, 8, 9, 10, 11, 12, 13, 14, 15] st st := XG.rf hI
  have hl := lv_entry ([.ref (A (36 + 20 * i)), .int va, .int vb]) (n := 5) (Nat.le_of_ble_eq_true rfl)
  rw [lg_entry_eq]
  generalize (lg_sl ([.ref (A (36 + 20 * i)), .int va, .int vb]) ++ List.replicate (5 - (lg_sl ([.ref (A (36 + 20 * i)), .int va, .int vb])).length) Slot.unset).toArray = ls at hl ⊢
  have hl : lv_has ls 5 [(0, .ref (A (36 + 20 * i))), (1, .int va), (2, .int vb)] := hl
  clear hI
  refine lv_iconst (v := 0) hx hb dX4_dogsComing_0 (by decide) ?_
  refine lv_istore_n (lv' := [(3, .int 0), (0, .ref (A (36 + 20 * i))), (1, .int va), (2, .int vb)]) hx hb dX4_dogsComing_1 rfl hl (by decide) rfl (fun ls hl => ?_)
  refine lv_iconst (v := 0) hx hb dX4_dogsComing_2 (by decide) ?_
  refine lv_istore (lv' := [(4, .int 0), (3, .int 0), (0, .ref (A (36 + 20 * i))), (1, .int va), (2, .int vb)]) hx hb dX4_dogsComing_3 hl (by decide) rfl (fun ls hl => ?_)
  refine zz_wf (fun n stk H locs ls => ∃ k1 : Nat, ∃ z2 : Int32, n = 7 - k1 ∧ 0 ≤ k1 ∧ k1 < 7 ∧ va_P (dC, dI) vwCl (xw A C nb st sl so) H ∧ va_S (XA A s.heap.size) s.heap H locs ∧ lv_has ls 5 [(4, .int (nI k1)), (3, .int z2), (0, .ref (A (36 + 20 * i))), (1, .int va), (2, .int vb)] ∧ stk = []) ?_ (7 - 0) _ _ _ _ ⟨0, 0, rfl, by omega, by omega, hP, hS, lv_sub hl [0, 1, 2, 3, 4] rfl, rfl⟩
  rintro nn stk H locs ls ⟨k1, z2, hm4, hv3_0, hv4_1, hP, hS, hl, rfl⟩ ih5
  refine lv_iload hx hb dX4_dogsComing_5 (lv_at hl 0 rfl) ?_
  refine lv_aload_n hx hb dX4_dogsComing_7 rfl (lv_at hl 2 rfl) ?_
  refine va_get (D := (dC, dI)) (ci := 5) (v := .int (st (36 + 20 * i) 7)) (C := RX4) (T := TX4) (N := 12) hx hb hts ii_X4_dogsComing_X4 hown hK hP (36 + 20 * i) (xw_is (r := (36 + 20 * i)) (by omega) (xc_pk (i := i) (o := 0) (by omega) (by omega))) rfl 7 (by decide) (hts _ mm_X4_dogsComing_1) (fun _ hh => hh) rfl dX4_dogsComing_8 ?_
  obtain ⟨n6, hn6, en6⟩ := hG.1.at (r := (36 + 20 * i)) (k := 7) (b := 7) ((xrg_pk (i := i) (o := 0) (k := 7) (by omega)).trans (by first | rfl | decide)) (by decide)
  refine zz_top (v := nI n6) (by exact en6) ?_
  clear en6
  refine lv_icmp_ge (tgt := 50) hx hb dX4_dogsComing_11 (by decide) (fun c1 => ?_) (fun c1 => ?_)
  · have c1 : n6 ≤ k1 := (nI_leI (a := n6) (b := k1) (by omega) (by omega)).mp c1
    refine lv_iload_n hx hb dX4_dogsComing_50 rfl (lv_at hl 1 rfl) ?_
    exact W.iret (v := z2) hx hb hr (fun t ht hW => ⟨⟨z2, (st, sl, so), rfl, ⟨rfl, trivial⟩, xB.of ht hP⟩, hS.F ht⟩) hS.2.2 dX4_dogsComing_51
  · have c1 : ¬ n6 ≤ k1 := fun hh => c1 ((nI_leI (a := n6) (b := k1) (by omega) (by omega)).mpr hh)
    refine lv_aload_n hx hb dX4_dogsComing_14 rfl (lv_at hl 2 rfl) ?_
    refine va_get (D := (dC, dI)) (ci := 5) (v := .ref (A (36 + 20 * i + 4))) (C := RX4) (T := TX4) (N := 12) hx hb hts ii_X4_dogsComing_X4 hown hK hP (36 + 20 * i) (xw_is (r := (36 + 20 * i)) (by omega) (xc_pk (i := i) (o := 0) (by omega) (by omega))) rfl 3 (by decide) (hts _ mm_X4_dogsComing_2) (fun _ hh => hh) rfl dX4_dogsComing_15 ?_
    refine lv_aload_n hx hb dX4_dogsComing_18 rfl (lv_at hl 2 rfl) ?_
    refine va_get (D := (dC, dI)) (ci := 5) (v := .ref (A (36 + 20 * i + 5))) (C := RX4) (T := TX4) (N := 12) hx hb hts ii_X4_dogsComing_X4 hown hK hP (36 + 20 * i) (xw_is (r := (36 + 20 * i)) (by omega) (xc_pk (i := i) (o := 0) (by omega) (by omega))) rfl 4 (by decide) (hts _ mm_X4_dogsComing_3) (fun _ hh => hh) rfl dX4_dogsComing_19 ?_
    refine lv_iload hx hb dX4_dogsComing_22 (lv_at hl 0 rfl) ?_
    refine va_aldq hx hb hK hP (36 + 20 * i + 5) (36 + 20 * i + 5) (xw_is (r := (36 + 20 * i + 5)) (by omega) (xc_pk (i := i) (o := 5) (by omega) (by omega))) (xt_is (r := (36 + 20 * i + 5)) (by omega) ((xty_pk (i := i) (o := 5) (by omega)).trans rfl)) (i := (nI k1)) (vp_in_nI (by omega) (by decide)) dX4_dogsComing_24 ?_
    refine zz_topq (r := some (A (36 + 20 * i + (14 + k1)))) (by rw [nI_clamp (by omega)]; exact congrArg some (congrArg A (by omega))) ?_
    refine va_getN (host := "OffTheLead") (D := (dC, dI)) (ci := 3) (v := .int (st (36 + 20 * i + (14 + k1)) 1)) (C := RX2) (T := TX2) (N := 7) hx hb hts ii_X4_dogsComing_X2 hown hK hP (36 + 20 * i + (14 + k1)) (xw_is (r := (36 + 20 * i + (14 + k1))) (by omega) (xc_dog (i := i) (p := k1) (by omega) (by omega))) rfl 1 (by decide) (va_Nw.use rfl (nf_X4_80 hEv)) (fun _ hh => hh) rfl dX4_dogsComing_25 ?_
    obtain ⟨n7, hn7, en7⟩ := hG.1.at (r := (36 + 20 * i + (14 + k1))) (k := 1) (b := 8) ((xrg_do (i := i) (p := k1) (by omega)).trans (by decide)) (by decide)
    refine zz_top (v := nI n7) (by exact en7) ?_
    clear en7
    refine va_aldq hx hb hK hP (36 + 20 * i + 4) (36 + 20 * i + 4) (xw_is (r := (36 + 20 * i + 4)) (by omega) (xc_pk (i := i) (o := 4) (by omega) (by omega))) (xt_is (r := (36 + 20 * i + 4)) (by omega) ((xty_pk (i := i) (o := 4) (by omega)).trans rfl)) (i := (nI n7)) (vp_in_nI (by omega) (by decide)) dX4_dogsComing_28 ?_
    refine zz_topq (r := some (A (36 + 20 * i + (6 + n7)))) (by rw [nI_clamp (by omega)]; exact congrArg some (congrArg A (by omega))) ?_
    refine lv_iload_n hx hb dX4_dogsComing_29 rfl (lv_at hl 3 rfl) ?_
    refine lv_iload_n hx hb dX4_dogsComing_30 rfl (lv_at hl 4 rfl) ?_
    refine va_calli (va_runV (As := [.int va, .int vb]) (rest := []) ⟨hx, hb, hml, hown, hts⟩ (x_X6_isDue l dC dI ad E hEE A C nb _ hN st sl so i n7 va vb (by omega) (by omega) hG.1) (cwV 2 hts gX4_dogsComing_X6_isDue rfl rfl rfl (by decide +kernel) ⟨Nat.le_of_ble_eq_true rfl, Nat.le_of_ble_eq_true rfl⟩) ⟨fun a U g mk q => ⟨q.1, xPre.blind hEE q.2⟩, va_recv hK hP (ci := 7) (q0 := (36 + 20 * i + (6 + n7))) rfl (xw_is (r := (36 + 20 * i + (6 + n7))) (by omega) (xc_person (i := i) (p := n7) (by omega) (by omega))), fun U hU hW => ⟨rfl, xPre.of hEE hP hK hE hS hU hW⟩⟩ rfl rfl hl.1 rfl (lv_room (Nat.le_of_ble_eq_true rfl)) dX4_dogsComing_31 ⟨Nat.le_of_ble_eq_true rfl, Nat.le_of_ble_eq_true rfl⟩) hS (fun q _ h => XA.le hS.1 q h) (XA.le hS.1) (fun r8 x t H locs ht hvm hw hB _ _ hS => ?_)
    have hP := xB.at ht hB
    clear hB ht hvm
    obtain ⟨rfl, hw⟩ := hw
    have hP : va_P (dC, dI) vwCl (xw A C nb st sl so) _ := hP
    rcases hw with rfl | rfl
    · refine lv_if_eq (tgt := 44) hx hb dX4_dogsComing_34 (by decide) (fun cc => absurd cc (by decide)) (fun _ => ?_)
      refine lv_iload_n hx hb dX4_dogsComing_37 rfl (lv_at hl 1 rfl) ?_
      refine lv_iconst (v := 1) hx hb dX4_dogsComing_38 (by decide) ?_
      refine lv_iload hx hb dX4_dogsComing_39 (lv_at hl 0 rfl) ?_
      refine lv_ishl hx hb dX4_dogsComing_41 ?_
      refine lv_topi (fun z9 ez9 => ?_)
      clear ez9
      refine lv_ior hx hb dX4_dogsComing_42 ?_
      refine lv_topi (fun z10 ez10 => ?_)
      clear ez10
      refine lv_istore_n (lv' := [(3, .int z10), (4, .int (nI k1)), (0, .ref (A (36 + 20 * i))), (1, .int va), (2, .int vb)]) hx hb dX4_dogsComing_43 rfl hl (by decide) rfl (fun ls hl => ?_)
      refine lv_iinc (v := (nI (k1 + 1))) (lv' := [(4, .int (nI (k1 + 1))), (3, .int z10), (0, .ref (A (36 + 20 * i))), (1, .int va), (2, .int vb)]) hx hb dX4_dogsComing_44 hl (k := 1) rfl (nI_add k1 1) (by decide) rfl (fun ls hl => ?_)
      refine lv_goto (tgt := 5) hx hb dX4_dogsComing_47 (by decide) ?_
      exact ih5 (7 - (k1 + 1)) _ _ _ _ (by omega) ⟨(k1 + 1), z10, rfl, by omega, by omega, hP, hS, lv_sub hl [0, 1, 2, 3, 4] rfl, rfl⟩
    · refine lv_if_eq (tgt := 44) hx hb dX4_dogsComing_34 (by decide) (fun _ => ?_) (fun cc => absurd (by decide) cc)
      refine lv_iinc (v := (nI (k1 + 1))) (lv' := [(4, .int (nI (k1 + 1))), (3, .int z2), (0, .ref (A (36 + 20 * i))), (1, .int va), (2, .int vb)]) hx hb dX4_dogsComing_44 hl (k := 0) rfl (nI_add k1 1) (by decide) rfl (fun ls hl => ?_)
      refine lv_goto (tgt := 5) hx hb dX4_dogsComing_47 (by decide) ?_
      exact ih5 (7 - (k1 + 1)) _ _ _ _ (by omega) ⟨(k1 + 1), z2, rfl, by omega, by omega, hP, hS, lv_sub hl [0, 1, 2, 3, 4] rfl, rfl⟩
set_option maxHeartbeats 4000000 in
set_option maxRecDepth 100000 in
theorem x_X4_meetingHours (l : Launch) (dC : Nat → ClassId) (dI : Nat → Nat → Nat) (ad : Nat → Nat) (E : EP) (hEE : EC ad E) (A : Nat → Nat) (C : Nat → ClassId) (nb sz : Nat) (hN : XN A) (st : Nat → Nat → Int32) (sl : Nat → Nat → Int64) (so : Nat → XR) (i : Nat) (va : Nat) (vb : Nat) (hi : i < 13) (hva : va < 8) (hvb : vb < 8) (hI : XI st) : Met l yX4_meetingHours wsX4_meetingHours ({ frames := 2, cells := 0, slots := 0, locals := 41 }) (va_Pc [.ref (A (36 + 20 * i)), .int (nI va), .int (nI vb)] (xPre E dC dI A C nb sz st sl so)) (va_Qi (fun (r : Int32) (x : XT) => x = (st, sl, so) ∧ (True)) (xB dC dI A C nb) (XA A sz)) 0 0 (XA A sz) := by
  refine Met.ofW (cc := cX4_meetingHours) (maxL := 3) (ret := (some .int)) (by decide) rfl ?_
  intro p e s m args below meth c s₁ B hml hv
  obtain ⟨rfl, hsz, hP, hK, hE⟩ := hv
  have hx := B.exec
  have hb := B.bytes
  have hr := B.returns
  have hts := atoms_spec (ws := wsX4_meetingHours) B.pre
  have hown : s.vm.findClass RX4 = some m.cls := findClass_of_methodNamed B.named
  subst hsz
  have hEv := hEE.1 _ _ _ hE
  have hS : va_S (XA A s.heap.size) s.heap s.heap [] := va_S.rf
  have hG : XG [1, 2, 3, 4, 5, 6, 7, 8, 9, 10, 11, 12, 13, 14, 15] st st := XG.rf hI
  have hl := lv_entry ([.ref (A (36 + 20 * i)), .int (nI va), .int (nI vb)]) (n := 3) (Nat.le_of_ble_eq_true rfl)
  rw [lg_entry_eq]
  generalize (lg_sl ([.ref (A (36 + 20 * i)), .int (nI va), .int (nI vb)]) ++ List.replicate (3 - (lg_sl ([.ref (A (36 + 20 * i)), .int (nI va), .int (nI vb)])).length) Slot.unset).toArray = ls at hl ⊢
  have hl : lv_has ls 3 [(0, .ref (A (36 + 20 * i))), (1, .int (nI va)), (2, .int (nI vb))] := hl
  clear hI
  refine lv_aload_n hx hb dX4_meetingHours_0 rfl (lv_at hl 0 rfl) ?_
  refine va_get (D := (dC, dI)) (ci := 5) (v := .ref (A (36 + 20 * i + 4))) (C := RX4) (T := TX4) (N := 12) hx hb hts ii_X4_meetingHours_X4 hown hK hP (36 + 20 * i) (xw_is (r := (36 + 20 * i)) (by omega) (xc_pk (i := i) (o := 0) (by omega) (by omega))) rfl 3 (by decide) (hts _ mm_X4_meetingHours_1) (fun _ hh => hh) rfl dX4_meetingHours_1 ?_
  refine lv_iload_n hx hb dX4_meetingHours_4 rfl (lv_at hl 1 rfl) ?_
  refine va_aldq hx hb hK hP (36 + 20 * i + 4) (36 + 20 * i + 4) (xw_is (r := (36 + 20 * i + 4)) (by omega) (xc_pk (i := i) (o := 4) (by omega) (by omega))) (xt_is (r := (36 + 20 * i + 4)) (by omega) ((xty_pk (i := i) (o := 4) (by omega)).trans rfl)) (i := (nI va)) (vp_in_nI (by omega) (by decide)) dX4_meetingHours_5 ?_
  refine zz_topq (r := some (A (36 + 20 * i + (6 + va)))) (by rw [nI_clamp (by omega)]; exact congrArg some (congrArg A (by omega))) ?_
  refine va_getN (host := "OffTheLead") (D := (dC, dI)) (ci := 7) (v := .int (st (36 + 20 * i + (6 + va)) 1)) (C := RX6) (T := TX6) (N := 9) hx hb hts ii_X4_meetingHours_X6 hown hK hP (36 + 20 * i + (6 + va)) (xw_is (r := (36 + 20 * i + (6 + va))) (by omega) (xc_person (i := i) (p := va) (by omega) (by omega))) rfl 1 (by decide) (va_Nw.use rfl (nf_X4_97 hEv)) (fun _ hh => hh) rfl dX4_meetingHours_6 ?_
  obtain ⟨n1, hn1, en1⟩ := hG.1.at (r := (36 + 20 * i + (6 + va))) (k := 1) (b := 5) ((xrg_pe (i := i) (p := va) (by omega)).trans (by decide)) (by decide)
  refine zz_top (v := nI n1) (by exact en1) ?_
  clear en1
  refine lv_aload_n hx hb dX4_meetingHours_9 rfl (lv_at hl 0 rfl) ?_
  refine va_get (D := (dC, dI)) (ci := 5) (v := .ref (A (36 + 20 * i + 4))) (C := RX4) (T := TX4) (N := 12) hx hb hts ii_X4_meetingHours_X4 hown hK hP (36 + 20 * i) (xw_is (r := (36 + 20 * i)) (by omega) (xc_pk (i := i) (o := 0) (by omega) (by omega))) rfl 3 (by decide) (hts _ mm_X4_meetingHours_1) (fun _ hh => hh) rfl dX4_meetingHours_10 ?_
  refine lv_iload_n hx hb dX4_meetingHours_13 rfl (lv_at hl 2 rfl) ?_
  refine va_aldq hx hb hK hP (36 + 20 * i + 4) (36 + 20 * i + 4) (xw_is (r := (36 + 20 * i + 4)) (by omega) (xc_pk (i := i) (o := 4) (by omega) (by omega))) (xt_is (r := (36 + 20 * i + 4)) (by omega) ((xty_pk (i := i) (o := 4) (by omega)).trans rfl)) (i := (nI vb)) (vp_in_nI (by omega) (by decide)) dX4_meetingHours_14 ?_
  refine zz_topq (r := some (A (36 + 20 * i + (6 + vb)))) (by rw [nI_clamp (by omega)]; exact congrArg some (congrArg A (by omega))) ?_
  refine va_getN (host := "OffTheLead") (D := (dC, dI)) (ci := 7) (v := .int (st (36 + 20 * i + (6 + vb)) 1)) (C := RX6) (T := TX6) (N := 9) hx hb hts ii_X4_meetingHours_X6 hown hK hP (36 + 20 * i + (6 + vb)) (xw_is (r := (36 + 20 * i + (6 + vb))) (by omega) (xc_person (i := i) (p := vb) (by omega) (by omega))) rfl 1 (by decide) (va_Nw.use rfl (nf_X4_97 hEv)) (fun _ hh => hh) rfl dX4_meetingHours_15 ?_
  obtain ⟨n2, hn2, en2⟩ := hG.1.at (r := (36 + 20 * i + (6 + vb))) (k := 1) (b := 5) ((xrg_pe (i := i) (p := vb) (by omega)).trans (by decide)) (by decide)
  refine zz_top (v := nI n2) (by exact en2) ?_
  clear en2
  refine lv_icmp_eq (tgt := 23) hx hb dX4_meetingHours_18 (by decide) (fun c1 => ?_) (fun c1 => ?_)
  · have c1 : n1 = n2 := (nI_eq (a := n1) (b := n2) (by omega) (by omega)).mp c1
    refine lv_aload_n hx hb dX4_meetingHours_23 rfl (lv_at hl 0 rfl) ?_
    refine va_get (D := (dC, dI)) (ci := 5) (v := .ref (A (36 + 20 * i + 4))) (C := RX4) (T := TX4) (N := 12) hx hb hts ii_X4_meetingHours_X4 hown hK hP (36 + 20 * i) (xw_is (r := (36 + 20 * i)) (by omega) (xc_pk (i := i) (o := 0) (by omega) (by omega))) rfl 3 (by decide) (hts _ mm_X4_meetingHours_1) (fun _ hh => hh) rfl dX4_meetingHours_24 ?_
    refine lv_iload_n hx hb dX4_meetingHours_27 rfl (lv_at hl 1 rfl) ?_
    refine va_aldq hx hb hK hP (36 + 20 * i + 4) (36 + 20 * i + 4) (xw_is (r := (36 + 20 * i + 4)) (by omega) (xc_pk (i := i) (o := 4) (by omega) (by omega))) (xt_is (r := (36 + 20 * i + 4)) (by omega) ((xty_pk (i := i) (o := 4) (by omega)).trans rfl)) (i := (nI va)) (vp_in_nI (by omega) (by decide)) dX4_meetingHours_28 ?_
    refine zz_topq (r := some (A (36 + 20 * i + (6 + va)))) (by rw [nI_clamp (by omega)]; exact congrArg some (congrArg A (by omega))) ?_
    refine va_calli (va_runV (As := []) (rest := []) ⟨hx, hb, hml, hown, hts⟩ (x_X6_hours l dC dI ad E hEE A C nb _ hN st sl so i va (by omega) (by omega) hG.1) (cwV 0 hts gX4_meetingHours_X6_hours rfl rfl rfl (by decide +kernel) ⟨Nat.le_of_ble_eq_true rfl, Nat.le_of_ble_eq_true rfl⟩) ⟨fun a U g mk q => ⟨q.1, xPre.blind hEE q.2⟩, va_recv hK hP (ci := 7) (q0 := (36 + 20 * i + (6 + va))) rfl (xw_is (r := (36 + 20 * i + (6 + va))) (by omega) (xc_person (i := i) (p := va) (by omega) (by omega))), fun U hU hW => ⟨rfl, xPre.of hEE hP hK hE hS hU hW⟩⟩ rfl rfl hl.1 rfl (lv_room (Nat.le_of_ble_eq_true rfl)) dX4_meetingHours_29 ⟨Nat.le_of_ble_eq_true rfl, Nat.le_of_ble_eq_true rfl⟩) hS (fun q _ h => XA.le hS.1 q h) (XA.le hS.1) (fun r3 x t H locs ht hvm hw hB _ _ hS => ?_)
    have hP := xB.at ht hB
    clear hB ht hvm
    obtain ⟨rfl, hw⟩ := hw
    have hP : va_P (dC, dI) vwCl (xw A C nb st sl so) _ := hP
    clear hw
    refine lv_aload_n hx hb dX4_meetingHours_32 rfl (lv_at hl 0 rfl) ?_
    refine va_get (D := (dC, dI)) (ci := 5) (v := .ref (A (36 + 20 * i + 4))) (C := RX4) (T := TX4) (N := 12) hx hb hts ii_X4_meetingHours_X4 hown hK hP (36 + 20 * i) (xw_is (r := (36 + 20 * i)) (by omega) (xc_pk (i := i) (o := 0) (by omega) (by omega))) rfl 3 (by decide) (hts _ mm_X4_meetingHours_1) (fun _ hh => hh) rfl dX4_meetingHours_33 ?_
    refine lv_iload_n hx hb dX4_meetingHours_36 rfl (lv_at hl 2 rfl) ?_
    refine va_aldq hx hb hK hP (36 + 20 * i + 4) (36 + 20 * i + 4) (xw_is (r := (36 + 20 * i + 4)) (by omega) (xc_pk (i := i) (o := 4) (by omega) (by omega))) (xt_is (r := (36 + 20 * i + 4)) (by omega) ((xty_pk (i := i) (o := 4) (by omega)).trans rfl)) (i := (nI vb)) (vp_in_nI (by omega) (by decide)) dX4_meetingHours_37 ?_
    refine zz_topq (r := some (A (36 + 20 * i + (6 + vb)))) (by rw [nI_clamp (by omega)]; exact congrArg some (congrArg A (by omega))) ?_
    refine va_calli (va_runV (As := []) (rest := [.int r3]) ⟨hx, hb, hml, hown, hts⟩ (x_X6_hours l dC dI ad E hEE A C nb _ hN st sl so i vb (by omega) (by omega) hG.1) (cwV 0 hts gX4_meetingHours_X6_hours rfl rfl rfl (by decide +kernel) ⟨Nat.le_of_ble_eq_true rfl, Nat.le_of_ble_eq_true rfl⟩) ⟨fun a U g mk q => ⟨q.1, xPre.blind hEE q.2⟩, va_recv hK hP (ci := 7) (q0 := (36 + 20 * i + (6 + vb))) rfl (xw_is (r := (36 + 20 * i + (6 + vb))) (by omega) (xc_person (i := i) (p := vb) (by omega) (by omega))), fun U hU hW => ⟨rfl, xPre.of hEE hP hK hE hS hU hW⟩⟩ rfl rfl hl.1 rfl (lv_room (Nat.le_of_ble_eq_true rfl)) dX4_meetingHours_38 ⟨Nat.le_of_ble_eq_true rfl, Nat.le_of_ble_eq_true rfl⟩) hS (fun q _ h => XA.le hS.1 q h) (XA.le hS.1) (fun r4 x t H locs ht hvm hw hB _ _ hS => ?_)
    have hP := xB.at ht hB
    clear hB ht hvm
    obtain ⟨rfl, hw⟩ := hw
    have hP : va_P (dC, dI) vwCl (xw A C nb st sl so) _ := hP
    clear hw
    refine lv_iand hx hb dX4_meetingHours_41 ?_
    refine lv_topi (fun z5 ez5 => ?_)
    clear ez5
    exact W.iret (v := z5) hx hb hr (fun t ht hW => ⟨⟨z5, (st, sl, so), rfl, ⟨rfl, trivial⟩, xB.of ht hP⟩, hS.F ht⟩) hS.2.2 dX4_meetingHours_42
  · have c1 : ¬ n1 = n2 := fun hh => c1 ((nI_eq (a := n1) (b := n2) (by omega) (by omega)).mpr hh)
    refine lv_iconst (v := 0) hx hb dX4_meetingHours_21 (by decide) ?_
    exact W.iret (v := 0) hx hb hr (fun t ht hW => ⟨⟨0, (st, sl, so), rfl, ⟨rfl, trivial⟩, xB.of ht hP⟩, hS.F ht⟩) hS.2.2 dX4_meetingHours_22
set_option maxHeartbeats 4000000 in
set_option maxRecDepth 100000 in
theorem x_X4_troubledHours (l : Launch) (dC : Nat → ClassId) (dI : Nat → Nat → Nat) (ad : Nat → Nat) (E : EP) (hEE : EC ad E) (A : Nat → Nat) (C : Nat → ClassId) (nb sz : Nat) (hN : XN A) (st : Nat → Nat → Int32) (sl : Nat → Nat → Int64) (so : Nat → XR) (i : Nat) (va : Nat) (hi : i < 13) (hva : va < 5) (hI : XI st) : Met l yX4_troubledHours wsX4_troubledHours ({ frames := 2, cells := 0, slots := 0, locals := 41 }) (va_Pc [.ref (A (36 + 20 * i)), .int (nI va)] (xPre E dC dI A C nb sz st sl so)) (va_Qi (fun (r : Int32) (x : XT) => x = (st, sl, so) ∧ (True)) (xB dC dI A C nb) (XA A sz)) 0 0 (XA A sz) := by
  refine Met.ofW (cc := cX4_troubledHours) (maxL := 5) (ret := (some .int)) (by decide) rfl ?_
  intro p e s m args below meth c s₁ B hml hv
  obtain ⟨rfl, hsz, hP, hK, hE⟩ := hv
  have hx := B.exec
  have hb := B.bytes
  have hr := B.returns
  have hts := atoms_spec (ws := wsX4_troubledHours) B.pre
  have hown : s.vm.findClass RX4 = some m.cls := findClass_of_methodNamed B.named
  subst hsz
  have hEv := hEE.1 _ _ _ hE
  have hS : va_S (XA A s.heap.size) s.heap s.heap [] := va_S.rf
  have hG : XG [1, 2, 3, 4, 5, 6, 7, 8, 9, 10, 11, 12, 13, 14, 15] st st := XG.rf hI
  have hl := lv_entry ([.ref (A (36 + 20 * i)), .int (nI va)]) (n := 5) (Nat.le_of_ble_eq_true rfl)
  rw [lg_entry_eq]
  generalize (lg_sl ([.ref (A (36 + 20 * i)), .int (nI va)]) ++ List.replicate (5 - (lg_sl ([.ref (A (36 + 20 * i)), .int (nI va)])).length) Slot.unset).toArray = ls at hl ⊢
  have hl : lv_has ls 5 [(0, .ref (A (36 + 20 * i))), (1, .int (nI va))] := hl
  clear hI
  refine lv_iconst (v := 0) hx hb dX4_troubledHours_0 (by decide) ?_
  refine lv_istore_n (lv' := [(2, .int 0), (0, .ref (A (36 + 20 * i))), (1, .int (nI va))]) hx hb dX4_troubledHours_1 rfl hl (by decide) rfl (fun ls hl => ?_)
  refine lv_iconst (v := 0) hx hb dX4_troubledHours_2 (by decide) ?_
  refine lv_istore_n (lv' := [(3, .int 0), (2, .int 0), (0, .ref (A (36 + 20 * i))), (1, .int (nI va))]) hx hb dX4_troubledHours_3 rfl hl (by decide) rfl (fun ls hl => ?_)
  refine zz_wf (fun n stk H locs ls => ∃ k1 : Nat, ∃ z2 : Int32, n = 7 - k1 ∧ 0 ≤ k1 ∧ k1 < 7 ∧ va_P (dC, dI) vwCl (xw A C nb st sl so) H ∧ va_S (XA A s.heap.size) s.heap H locs ∧ lv_has ls 5 [(3, .int (nI k1)), (2, .int z2), (0, .ref (A (36 + 20 * i))), (1, .int (nI va))] ∧ stk = []) ?_ (7 - 0) _ _ _ _ ⟨0, 0, rfl, by omega, by omega, hP, hS, lv_sub hl [0, 1, 2, 3] rfl, rfl⟩
  rintro nn stk H locs ls ⟨k1, z2, hm4, hv3_0, hv4_1, hP, hS, hl, rfl⟩ ih5
  refine lv_iload_n hx hb dX4_troubledHours_4 rfl (lv_at hl 0 rfl) ?_
  refine lv_aload_n hx hb dX4_troubledHours_5 rfl (lv_at hl 2 rfl) ?_
  refine va_get (D := (dC, dI)) (ci := 5) (v := .int (st (36 + 20 * i) 7)) (C := RX4) (T := TX4) (N := 12) hx hb hts ii_X4_troubledHours_X4 hown hK hP (36 + 20 * i) (xw_is (r := (36 + 20 * i)) (by omega) (xc_pk (i := i) (o := 0) (by omega) (by omega))) rfl 7 (by decide) (hts _ mm_X4_troubledHours_1) (fun _ hh => hh) rfl dX4_troubledHours_6 ?_
  obtain ⟨n6, hn6, en6⟩ := hG.1.at (r := (36 + 20 * i)) (k := 7) (b := 7) ((xrg_pk (i := i) (o := 0) (k := 7) (by omega)).trans (by first | rfl | decide)) (by decide)
  refine zz_top (v := nI n6) (by exact en6) ?_
  clear en6
  refine lv_icmp_ge (tgt := 72) hx hb dX4_troubledHours_9 (by decide) (fun c1 => ?_) (fun c1 => ?_)
  · have c1 : n6 ≤ k1 := (nI_leI (a := n6) (b := k1) (by omega) (by omega)).mp c1
    refine lv_iload_n hx hb dX4_troubledHours_72 rfl (lv_at hl 1 rfl) ?_
    exact W.iret (v := z2) hx hb hr (fun t ht hW => ⟨⟨z2, (st, sl, so), rfl, ⟨rfl, trivial⟩, xB.of ht hP⟩, hS.F ht⟩) hS.2.2 dX4_troubledHours_73
  · have c1 : ¬ n6 ≤ k1 := fun hh => c1 ((nI_leI (a := n6) (b := k1) (by omega) (by omega)).mpr hh)
    refine lv_aload_n hx hb dX4_troubledHours_12 rfl (lv_at hl 2 rfl) ?_
    refine va_get (D := (dC, dI)) (ci := 5) (v := .ref (A (36 + 20 * i + 3))) (C := RX4) (T := TX4) (N := 12) hx hb hts ii_X4_troubledHours_X4 hown hK hP (36 + 20 * i) (xw_is (r := (36 + 20 * i)) (by omega) (xc_pk (i := i) (o := 0) (by omega) (by omega))) rfl 2 (by decide) (hts _ mm_X4_troubledHours_2) (fun _ hh => hh) rfl dX4_troubledHours_13 ?_
    refine lv_iload_n hx hb dX4_troubledHours_16 rfl (lv_at hl 3 rfl) ?_
    refine va_zald hx hb hK hP (36 + 20 * i + 3) (36 + 20 * i + 3) (xw_is (r := (36 + 20 * i + 3)) (by omega) (xc_pk (i := i) (o := 3) (by omega) (by omega))) (xt_is (r := (36 + 20 * i + 3)) (by omega) ((xty_pk (i := i) (o := 3) (by omega)).trans rfl)) (i := (nI va)) (vp_in_nI (by omega) (by decide)) dX4_troubledHours_17 ?_
    refine lv_topi (fun z7 ez7 => ?_)
    clear ez7
    refine lv_if_ne (tgt := 72) hx hb dX4_troubledHours_18 (by decide) (fun c2 => ?_) (fun c2 => ?_)
    · refine lv_iload_n hx hb dX4_troubledHours_72 rfl (lv_at hl 1 rfl) ?_
      exact W.iret (v := z2) hx hb hr (fun t ht hW => ⟨⟨z2, (st, sl, so), rfl, ⟨rfl, trivial⟩, xB.of ht hP⟩, hS.F ht⟩) hS.2.2 dX4_troubledHours_73
    · refine lv_aload_n hx hb dX4_troubledHours_21 rfl (lv_at hl 2 rfl) ?_
      refine va_get (D := (dC, dI)) (ci := 5) (v := .ref (A (36 + 20 * i + 4))) (C := RX4) (T := TX4) (N := 12) hx hb hts ii_X4_troubledHours_X4 hown hK hP (36 + 20 * i) (xw_is (r := (36 + 20 * i)) (by omega) (xc_pk (i := i) (o := 0) (by omega) (by omega))) rfl 3 (by decide) (hts _ mm_X4_troubledHours_3) (fun _ hh => hh) rfl dX4_troubledHours_22 ?_
      refine lv_aload_n hx hb dX4_troubledHours_25 rfl (lv_at hl 2 rfl) ?_
      refine va_get (D := (dC, dI)) (ci := 5) (v := .ref (A (36 + 20 * i + 5))) (C := RX4) (T := TX4) (N := 12) hx hb hts ii_X4_troubledHours_X4 hown hK hP (36 + 20 * i) (xw_is (r := (36 + 20 * i)) (by omega) (xc_pk (i := i) (o := 0) (by omega) (by omega))) rfl 4 (by decide) (hts _ mm_X4_troubledHours_4) (fun _ hh => hh) rfl dX4_troubledHours_26 ?_
      refine lv_iload_n hx hb dX4_troubledHours_29 rfl (lv_at hl 0 rfl) ?_
      refine va_aldq hx hb hK hP (36 + 20 * i + 5) (36 + 20 * i + 5) (xw_is (r := (36 + 20 * i + 5)) (by omega) (xc_pk (i := i) (o := 5) (by omega) (by omega))) (xt_is (r := (36 + 20 * i + 5)) (by omega) ((xty_pk (i := i) (o := 5) (by omega)).trans rfl)) (i := (nI k1)) (vp_in_nI (by omega) (by decide)) dX4_troubledHours_30 ?_
      refine zz_topq (r := some (A (36 + 20 * i + (14 + k1)))) (by rw [nI_clamp (by omega)]; exact congrArg some (congrArg A (by omega))) ?_
      refine va_getN (host := "OffTheLead") (D := (dC, dI)) (ci := 3) (v := .int (st (36 + 20 * i + (14 + k1)) 1)) (C := RX2) (T := TX2) (N := 7) hx hb hts ii_X4_troubledHours_X2 hown hK hP (36 + 20 * i + (14 + k1)) (xw_is (r := (36 + 20 * i + (14 + k1))) (by omega) (xc_dog (i := i) (p := k1) (by omega) (by omega))) rfl 1 (by decide) (va_Nw.use rfl (nf_X4_80 hEv)) (fun _ hh => hh) rfl dX4_troubledHours_31 ?_
      obtain ⟨n8, hn8, en8⟩ := hG.1.at (r := (36 + 20 * i + (14 + k1))) (k := 1) (b := 8) ((xrg_do (i := i) (p := k1) (by omega)).trans (by decide)) (by decide)
      refine zz_top (v := nI n8) (by exact en8) ?_
      clear en8
      refine va_aldq hx hb hK hP (36 + 20 * i + 4) (36 + 20 * i + 4) (xw_is (r := (36 + 20 * i + 4)) (by omega) (xc_pk (i := i) (o := 4) (by omega) (by omega))) (xt_is (r := (36 + 20 * i + 4)) (by omega) ((xty_pk (i := i) (o := 4) (by omega)).trans rfl)) (i := (nI n8)) (vp_in_nI (by omega) (by decide)) dX4_troubledHours_34 ?_
      refine zz_topq (r := some (A (36 + 20 * i + (6 + n8)))) (by rw [nI_clamp (by omega)]; exact congrArg some (congrArg A (by omega))) ?_
      refine lv_astore (lv' := [(4, .ref (A (36 + 20 * i + (6 + n8)))), (3, .int (nI k1)), (2, .int z2), (0, .ref (A (36 + 20 * i))), (1, .int (nI va))]) hx hb dX4_troubledHours_35 hl (by decide) rfl (fun ls hl => ?_)
      refine lv_aload hx hb dX4_troubledHours_37 (lv_at hl 0 rfl) ?_
      refine va_getN (host := "OffTheLead") (D := (dC, dI)) (ci := 7) (v := .int (st (36 + 20 * i + (6 + n8)) 1)) (C := RX6) (T := TX6) (N := 9) hx hb hts ii_X4_troubledHours_X6 hown hK hP (36 + 20 * i + (6 + n8)) (xw_is (r := (36 + 20 * i + (6 + n8))) (by omega) (xc_person (i := i) (p := n8) (by omega) (by omega))) rfl 1 (by decide) (va_Nw.use rfl (nf_X4_97 hEv)) (fun _ hh => hh) rfl dX4_troubledHours_39 ?_
      obtain ⟨n9, hn9, en9⟩ := hG.1.at (r := (36 + 20 * i + (6 + n8))) (k := 1) (b := 5) ((xrg_pe (i := i) (p := n8) (by omega)).trans (by decide)) (by decide)
      refine zz_top (v := nI n9) (by exact en9) ?_
      clear en9
      refine lv_iload_n hx hb dX4_troubledHours_42 rfl (lv_at hl 4 rfl) ?_
      refine lv_icmp_ne (tgt := 66) hx hb dX4_troubledHours_43 (by decide) (fun c3 => ?_) (fun c3 => ?_)
      · have c3 : ¬ n9 = va := fun hh => c3 ((nI_eq (a := n9) (b := va) (by omega) (by omega)).mpr hh)
        refine lv_iinc (v := (nI (k1 + 1))) (lv' := [(3, .int (nI (k1 + 1))), (4, .ref (A (36 + 20 * i + (6 + n8)))), (2, .int z2), (0, .ref (A (36 + 20 * i))), (1, .int (nI va))]) hx hb dX4_troubledHours_66 hl (k := 1) rfl (nI_add k1 1) (by decide) rfl (fun ls hl => ?_)
        refine lv_goto (tgt := 4) hx hb dX4_troubledHours_69 (by decide) ?_
        exact ih5 (7 - (k1 + 1)) _ _ _ _ (by omega) ⟨(k1 + 1), z2, rfl, by omega, by omega, hP, hS, lv_sub hl [0, 2, 3, 4] rfl, rfl⟩
      · have c3 : n9 = va := (nI_eq (a := n9) (b := va) (by omega) (by omega)).mp c3
        refine lv_aload_n hx hb dX4_troubledHours_46 rfl (lv_at hl 3 rfl) ?_
        refine va_get (D := (dC, dI)) (ci := 5) (v := .ref (A (36 + 20 * i + 5))) (C := RX4) (T := TX4) (N := 12) hx hb hts ii_X4_troubledHours_X4 hown hK hP (36 + 20 * i) (xw_is (r := (36 + 20 * i)) (by omega) (xc_pk (i := i) (o := 0) (by omega) (by omega))) rfl 4 (by decide) (hts _ mm_X4_troubledHours_4) (fun _ hh => hh) rfl dX4_troubledHours_47 ?_
        refine lv_iload_n hx hb dX4_troubledHours_50 rfl (lv_at hl 1 rfl) ?_
        refine va_aldq hx hb hK hP (36 + 20 * i + 5) (36 + 20 * i + 5) (xw_is (r := (36 + 20 * i + 5)) (by omega) (xc_pk (i := i) (o := 5) (by omega) (by omega))) (xt_is (r := (36 + 20 * i + 5)) (by omega) ((xty_pk (i := i) (o := 5) (by omega)).trans rfl)) (i := (nI k1)) (vp_in_nI (by omega) (by decide)) dX4_troubledHours_51 ?_
        refine zz_topq (r := some (A (36 + 20 * i + (14 + k1)))) (by rw [nI_clamp (by omega)]; exact congrArg some (congrArg A (by omega))) ?_
        refine va_getN (host := "OffTheLead") (D := (dC, dI)) (ci := 3) (v := .int (st (36 + 20 * i + (14 + k1)) 4)) (C := RX2) (T := TX2) (N := 7) hx hb hts ii_X4_troubledHours_X2 hown hK hP (36 + 20 * i + (14 + k1)) (xw_is (r := (36 + 20 * i + (14 + k1))) (by omega) (xc_dog (i := i) (p := k1) (by omega) (by omega))) rfl 4 (by decide) (va_Nw.use rfl (nf_X4_83 hEv)) (fun _ hh => hh) rfl dX4_troubledHours_52 ?_
        obtain ⟨n10, hn10, en10⟩ := hG.1.at (r := (36 + 20 * i + (14 + k1))) (k := 4) (b := 2) ((xrg_do (i := i) (p := k1) (by omega)).trans (by decide)) (by decide)
        refine zz_top (v := nI n10) (by exact en10) ?_
        clear en10
        refine lv_if_ne (tgt := 66) hx hb dX4_troubledHours_55 (by decide) (fun c4 => ?_) (fun c4 => ?_)
        · have c4 : ¬ n10 = 0 := fun hh => c4 ((nI_eq (a := n10) (b := 0) (by omega) (by omega)).mpr hh)
          refine lv_iinc (v := (nI (k1 + 1))) (lv' := [(3, .int (nI (k1 + 1))), (4, .ref (A (36 + 20 * i + (6 + n8)))), (2, .int z2), (0, .ref (A (36 + 20 * i))), (1, .int (nI va))]) hx hb dX4_troubledHours_66 hl (k := 1) rfl (nI_add k1 1) (by decide) rfl (fun ls hl => ?_)
          refine lv_goto (tgt := 4) hx hb dX4_troubledHours_69 (by decide) ?_
          exact ih5 (7 - (k1 + 1)) _ _ _ _ (by omega) ⟨(k1 + 1), z2, rfl, by omega, by omega, hP, hS, lv_sub hl [0, 2, 3, 4] rfl, rfl⟩
        · have c4 : n10 = 0 := (nI_eq (a := n10) (b := 0) (by omega) (by omega)).mp c4
          refine lv_iload_n hx hb dX4_troubledHours_58 rfl (lv_at hl 2 rfl) ?_
          refine lv_aload hx hb dX4_troubledHours_59 (lv_at hl 0 rfl) ?_
          refine va_calli (va_runV (As := []) (rest := [.int z2]) ⟨hx, hb, hml, hown, hts⟩ (x_X6_hours l dC dI ad E hEE A C nb _ hN st sl so i n8 (by omega) (by omega) hG.1) (cwV 0 hts gX4_troubledHours_X6_hours rfl rfl rfl (by decide +kernel) ⟨Nat.le_of_ble_eq_true rfl, Nat.le_of_ble_eq_true rfl⟩) ⟨fun a U g mk q => ⟨q.1, xPre.blind hEE q.2⟩, va_recv hK hP (ci := 7) (q0 := (36 + 20 * i + (6 + n8))) rfl (xw_is (r := (36 + 20 * i + (6 + n8))) (by omega) (xc_person (i := i) (p := n8) (by omega) (by omega))), fun U hU hW => ⟨rfl, xPre.of hEE hP hK hE hS hU hW⟩⟩ rfl rfl hl.1 rfl (lv_room (Nat.le_of_ble_eq_true rfl)) dX4_troubledHours_61 ⟨Nat.le_of_ble_eq_true rfl, Nat.le_of_ble_eq_true rfl⟩) hS (fun q _ h => XA.le hS.1 q h) (XA.le hS.1) (fun r11 x t H locs ht hvm hw hB _ _ hS => ?_)
          have hP := xB.at ht hB
          clear hB ht hvm
          obtain ⟨rfl, hw⟩ := hw
          have hP : va_P (dC, dI) vwCl (xw A C nb st sl so) _ := hP
          clear hw
          refine lv_ior hx hb dX4_troubledHours_64 ?_
          refine lv_topi (fun z12 ez12 => ?_)
          clear ez12
          refine lv_istore_n (lv' := [(2, .int z12), (4, .ref (A (36 + 20 * i + (6 + n8)))), (3, .int (nI k1)), (0, .ref (A (36 + 20 * i))), (1, .int (nI va))]) hx hb dX4_troubledHours_65 rfl hl (by decide) rfl (fun ls hl => ?_)
          refine lv_iinc (v := (nI (k1 + 1))) (lv' := [(3, .int (nI (k1 + 1))), (2, .int z12), (4, .ref (A (36 + 20 * i + (6 + n8)))), (0, .ref (A (36 + 20 * i))), (1, .int (nI va))]) hx hb dX4_troubledHours_66 hl (k := 2) rfl (nI_add k1 1) (by decide) rfl (fun ls hl => ?_)
          refine lv_goto (tgt := 4) hx hb dX4_troubledHours_69 (by decide) ?_
          exact ih5 (7 - (k1 + 1)) _ _ _ _ (by omega) ⟨(k1 + 1), z12, rfl, by omega, by omega, hP, hS, lv_sub hl [0, 1, 3, 4] rfl, rfl⟩
set_option maxHeartbeats 4000000 in
set_option maxRecDepth 100000 in
theorem x_X4_goodIf (l : Launch) (dC : Nat → ClassId) (dI : Nat → Nat → Nat) (ad : Nat → Nat) (E : EP) (hEE : EC ad E) (A : Nat → Nat) (C : Nat → ClassId) (nb sz : Nat) (hN : XN A) (st : Nat → Nat → Int32) (sl : Nat → Nat → Int64) (so : Nat → XR) (i : Nat) (va : Nat) (vb : Int32) (vc : Int32) (hi : i < 13) (hva : va < 8) (hI : XI st) : Met l yX4_goodIf wsX4_goodIf ({ frames := 2, cells := 0, slots := 0, locals := 41 }) (va_Pc [.ref (A (36 + 20 * i)), .int (nI va), .int vb, .int vc] (xPre E dC dI A C nb sz st sl so)) (va_Qi (fun (r : Int32) (x : XT) => x = (st, sl, so) ∧ (True)) (xB dC dI A C nb) (XA A sz)) 0 0 (XA A sz) := by
  refine Met.ofW (cc := cX4_goodIf) (maxL := 5) (ret := (some .int)) (by decide) rfl ?_
  intro p e s m args below meth c s₁ B hml hv
  obtain ⟨rfl, hsz, hP, hK, hE⟩ := hv
  have hx := B.exec
  have hb := B.bytes
  have hr := B.returns
  have hts := atoms_spec (ws := wsX4_goodIf) B.pre
  have hown : s.vm.findClass RX4 = some m.cls := findClass_of_methodNamed B.named
  subst hsz
  have hEv := hEE.1 _ _ _ hE
  have hS : va_S (XA A s.heap.size) s.heap s.heap [] := va_S.rf
  have hG : XG [1, 2, 3, 4, 5, 6, 7, 8, 9, 10, 11, 12, 13, 14, 15] st st := XG.rf hI
  have hl := lv_entry ([.ref (A (36 + 20 * i)), .int (nI va), .int vb, .int vc]) (n := 5) (Nat.le_of_ble_eq_true rfl)
  rw [lg_entry_eq]
  generalize (lg_sl ([.ref (A (36 + 20 * i)), .int (nI va), .int vb, .int vc]) ++ List.replicate (5 - (lg_sl ([.ref (A (36 + 20 * i)), .int (nI va), .int vb, .int vc])).length) Slot.unset).toArray = ls at hl ⊢
  have hl : lv_has ls 5 [(0, .ref (A (36 + 20 * i))), (1, .int (nI va)), (2, .int vb), (3, .int vc)] := hl
  clear hI
  refine lv_aload_n hx hb dX4_goodIf_0 rfl (lv_at hl 0 rfl) ?_
  refine va_get (D := (dC, dI)) (ci := 5) (v := .ref (A (36 + 20 * i + 4))) (C := RX4) (T := TX4) (N := 12) hx hb hts ii_X4_goodIf_X4 hown hK hP (36 + 20 * i) (xw_is (r := (36 + 20 * i)) (by omega) (xc_pk (i := i) (o := 0) (by omega) (by omega))) rfl 3 (by decide) (hts _ mm_X4_goodIf_1) (fun _ hh => hh) rfl dX4_goodIf_1 ?_
  refine lv_iload_n hx hb dX4_goodIf_4 rfl (lv_at hl 1 rfl) ?_
  refine va_aldq hx hb hK hP (36 + 20 * i + 4) (36 + 20 * i + 4) (xw_is (r := (36 + 20 * i + 4)) (by omega) (xc_pk (i := i) (o := 4) (by omega) (by omega))) (xt_is (r := (36 + 20 * i + 4)) (by omega) ((xty_pk (i := i) (o := 4) (by omega)).trans rfl)) (i := (nI va)) (vp_in_nI (by omega) (by decide)) dX4_goodIf_5 ?_
  refine zz_topq (r := some (A (36 + 20 * i + (6 + va)))) (by rw [nI_clamp (by omega)]; exact congrArg some (congrArg A (by omega))) ?_
  refine va_calli (va_runV (As := []) (rest := []) ⟨hx, hb, hml, hown, hts⟩ (x_X6_hours l dC dI ad E hEE A C nb _ hN st sl so i va (by omega) (by omega) hG.1) (cwV 0 hts gX4_goodIf_X6_hours rfl rfl rfl (by decide +kernel) ⟨Nat.le_of_ble_eq_true rfl, Nat.le_of_ble_eq_true rfl⟩) ⟨fun a U g mk q => ⟨q.1, xPre.blind hEE q.2⟩, va_recv hK hP (ci := 7) (q0 := (36 + 20 * i + (6 + va))) rfl (xw_is (r := (36 + 20 * i + (6 + va))) (by omega) (xc_person (i := i) (p := va) (by omega) (by omega))), fun U hU hW => ⟨rfl, xPre.of hEE hP hK hE hS hU hW⟩⟩ rfl rfl hl.1 rfl (lv_room (Nat.le_of_ble_eq_true rfl)) dX4_goodIf_6 ⟨Nat.le_of_ble_eq_true rfl, Nat.le_of_ble_eq_true rfl⟩) hS (fun q _ h => XA.le hS.1 q h) (XA.le hS.1) (fun r1 x t H locs ht hvm hw hB _ _ hS => ?_)
  have hP := xB.at ht hB
  clear hB ht hvm
  obtain ⟨rfl, hw⟩ := hw
  have hP : va_P (dC, dI) vwCl (xw A C nb st sl so) _ := hP
  clear hw
  refine lv_istore (lv' := [(4, .int r1), (0, .ref (A (36 + 20 * i))), (1, .int (nI va)), (2, .int vb), (3, .int vc)]) hx hb dX4_goodIf_9 hl (by decide) rfl (fun ls hl => ?_)
  refine lv_aload_n hx hb dX4_goodIf_11 rfl (lv_at hl 1 rfl) ?_
  refine va_get (D := (dC, dI)) (ci := 5) (v := .ref (A (36 + 20 * i + 4))) (C := RX4) (T := TX4) (N := 12) hx hb hts ii_X4_goodIf_X4 hown hK hP (36 + 20 * i) (xw_is (r := (36 + 20 * i)) (by omega) (xc_pk (i := i) (o := 0) (by omega) (by omega))) rfl 3 (by decide) (hts _ mm_X4_goodIf_1) (fun _ hh => hh) rfl dX4_goodIf_12 ?_
  refine lv_iload_n hx hb dX4_goodIf_15 rfl (lv_at hl 2 rfl) ?_
  refine va_aldq hx hb hK hP (36 + 20 * i + 4) (36 + 20 * i + 4) (xw_is (r := (36 + 20 * i + 4)) (by omega) (xc_pk (i := i) (o := 4) (by omega) (by omega))) (xt_is (r := (36 + 20 * i + 4)) (by omega) ((xty_pk (i := i) (o := 4) (by omega)).trans rfl)) (i := (nI va)) (vp_in_nI (by omega) (by decide)) dX4_goodIf_16 ?_
  refine zz_topq (r := some (A (36 + 20 * i + (6 + va)))) (by rw [nI_clamp (by omega)]; exact congrArg some (congrArg A (by omega))) ?_
  refine va_getN (host := "OffTheLead") (D := (dC, dI)) (ci := 7) (v := .int (st (36 + 20 * i + (6 + va)) 8)) (C := RX6) (T := TX6) (N := 9) hx hb hts ii_X4_goodIf_X6 hown hK hP (36 + 20 * i + (6 + va)) (xw_is (r := (36 + 20 * i + (6 + va))) (by omega) (xc_person (i := i) (p := va) (by omega) (by omega))) rfl 8 (by decide) (va_Nw.use rfl (nf_X4_77 hEv)) (fun _ hh => hh) rfl dX4_goodIf_17 ?_
  refine lv_topi (fun z2 ez2 => ?_)
  clear ez2
  refine lv_if_eq (tgt := 31) hx hb dX4_goodIf_20 (by decide) (fun c1 => ?_) (fun c1 => ?_)
  · refine lv_iload hx hb dX4_goodIf_31 (lv_at hl 0 rfl) ?_
    refine lv_iload_n hx hb dX4_goodIf_33 rfl (lv_at hl 3 rfl) ?_
    refine lv_iload_n hx hb dX4_goodIf_34 rfl (lv_at hl 4 rfl) ?_
    refine lv_iand hx hb dX4_goodIf_35 ?_
    refine lv_topi (fun z3 ez3 => ?_)
    clear ez3
    refine lv_iconst (v := (-1)) hx hb dX4_goodIf_36 (by decide) ?_
    refine lv_ixor hx hb dX4_goodIf_37 ?_
    refine lv_topi (fun z4 ez4 => ?_)
    clear ez4
    refine lv_iand hx hb dX4_goodIf_38 ?_
    refine lv_topi (fun z5 ez5 => ?_)
    clear ez5
    refine va_calli (va_runS (As := [.int z5]) (rest := []) ⟨hx, hb, hml, hown, hts⟩ (x_J6_bitCount_0f7a4 l dC dI ad E hEE A C nb _ hN st sl so z5  hG.1) (va_cwS 1 hts gX4_goodIf_J6_bitCount_0f7a4 rfl rfl rfl (by decide +kernel) ⟨Nat.le_of_ble_eq_true rfl, Nat.le_of_ble_eq_true rfl⟩) ⟨fun a U g mk q => ⟨q.1, xPre.blind hEE q.2⟩, fun U hU hW => ⟨rfl, xPre.of hEE hP hK hE hS hU hW⟩⟩ rfl rfl hl.1 rfl (lv_room (Nat.le_of_ble_eq_true rfl)) dX4_goodIf_39 ⟨Nat.le_of_ble_eq_true rfl, Nat.le_of_ble_eq_true rfl⟩) hS (fun q _ h => XA.le hS.1 q h) (XA.le hS.1) (fun r6 x t H locs ht hvm hw hB _ _ hS => ?_)
    have hP := xB.at ht hB
    clear hB ht hvm
    obtain ⟨rfl, hw⟩ := hw
    have hP : va_P (dC, dI) vwCl (xw A C nb st sl so) _ := hP
    clear hw
    exact W.iret (v := r6) hx hb hr (fun t ht hW => ⟨⟨r6, (st, sl, so), rfl, ⟨rfl, trivial⟩, xB.of ht hP⟩, hS.F ht⟩) hS.2.2 dX4_goodIf_42
  · refine lv_iload hx hb dX4_goodIf_23 (lv_at hl 0 rfl) ?_
    refine lv_iload_n hx hb dX4_goodIf_25 rfl (lv_at hl 3 rfl) ?_
    refine lv_iand hx hb dX4_goodIf_26 ?_
    refine lv_topi (fun z7 ez7 => ?_)
    clear ez7
    refine va_calli (va_runS (As := [.int z7]) (rest := []) ⟨hx, hb, hml, hown, hts⟩ (x_J6_bitCount_0f7a4 l dC dI ad E hEE A C nb _ hN st sl so z7  hG.1) (va_cwS 1 hts gX4_goodIf_J6_bitCount_0f7a4 rfl rfl rfl (by decide +kernel) ⟨Nat.le_of_ble_eq_true rfl, Nat.le_of_ble_eq_true rfl⟩) ⟨fun a U g mk q => ⟨q.1, xPre.blind hEE q.2⟩, fun U hU hW => ⟨rfl, xPre.of hEE hP hK hE hS hU hW⟩⟩ rfl rfl hl.1 rfl (lv_room (Nat.le_of_ble_eq_true rfl)) dX4_goodIf_27 ⟨Nat.le_of_ble_eq_true rfl, Nat.le_of_ble_eq_true rfl⟩) hS (fun q _ h => XA.le hS.1 q h) (XA.le hS.1) (fun r8 x t H locs ht hvm hw hB _ _ hS => ?_)
    have hP := xB.at ht hB
    clear hB ht hvm
    obtain ⟨rfl, hw⟩ := hw
    have hP : va_P (dC, dI) vwCl (xw A C nb st sl so) _ := hP
    clear hw
    exact W.iret (v := r8) hx hb hr (fun t ht hW => ⟨⟨r8, (st, sl, so), rfl, ⟨rfl, trivial⟩, xB.of ht hP⟩, hS.F ht⟩) hS.2.2 dX4_goodIf_30
set_option maxHeartbeats 4000000 in
set_option maxRecDepth 100000 in
theorem x_X4_goodOf (l : Launch) (dC : Nat → ClassId) (dI : Nat → Nat → Nat) (ad : Nat → Nat) (E : EP) (hEE : EC ad E) (A : Nat → Nat) (C : Nat → ClassId) (nb sz : Nat) (hN : XN A) (st : Nat → Nat → Int32) (sl : Nat → Nat → Int64) (so : Nat → XR) (i : Nat) (va : Nat) (vb : Nat) (hi : i < 13) (hva : va < 8) (hvb : vb < 5) (hI : XI st) : Met l yX4_goodOf wsX4_goodOf ({ frames := 3, cells := 0, slots := 0, locals := 65 }) (va_Pc [.ref (A (36 + 20 * i)), .int (nI va), .int (nI vb)] (xPre E dC dI A C nb sz st sl so)) (va_Qi (fun (r : Int32) (x : XT) => x = (st, sl, so) ∧ (True)) (xB dC dI A C nb) (XA A sz)) 0 0 (XA A sz) := by
  refine Met.ofW (cc := cX4_goodOf) (maxL := 3) (ret := (some .int)) (by decide) rfl ?_
  intro p e s m args below meth c s₁ B hml hv
  obtain ⟨rfl, hsz, hP, hK, hE⟩ := hv
  have hx := B.exec
  have hb := B.bytes
  have hr := B.returns
  have hts := atoms_spec (ws := wsX4_goodOf) B.pre
  have hown : s.vm.findClass RX4 = some m.cls := findClass_of_methodNamed B.named
  subst hsz
  have hEv := hEE.1 _ _ _ hE
  have hS : va_S (XA A s.heap.size) s.heap s.heap [] := va_S.rf
  have hG : XG [1, 2, 3, 4, 5, 6, 7, 8, 9, 10, 11, 12, 13, 14, 15] st st := XG.rf hI
  have hl := lv_entry ([.ref (A (36 + 20 * i)), .int (nI va), .int (nI vb)]) (n := 3) (Nat.le_of_ble_eq_true rfl)
  rw [lg_entry_eq]
  generalize (lg_sl ([.ref (A (36 + 20 * i)), .int (nI va), .int (nI vb)]) ++ List.replicate (3 - (lg_sl ([.ref (A (36 + 20 * i)), .int (nI va), .int (nI vb)])).length) Slot.unset).toArray = ls at hl ⊢
  have hl : lv_has ls 3 [(0, .ref (A (36 + 20 * i))), (1, .int (nI va)), (2, .int (nI vb))] := hl
  clear hI
  refine lv_aload_n hx hb dX4_goodOf_0 rfl (lv_at hl 0 rfl) ?_
  refine lv_iload_n hx hb dX4_goodOf_1 rfl (lv_at hl 1 rfl) ?_
  refine lv_aload_n hx hb dX4_goodOf_2 rfl (lv_at hl 0 rfl) ?_
  refine va_get (D := (dC, dI)) (ci := 5) (v := .ref (A (36 + 20 * i + 2))) (C := RX4) (T := TX4) (N := 12) hx hb hts ii_X4_goodOf_X4 hown hK hP (36 + 20 * i) (xw_is (r := (36 + 20 * i)) (by omega) (xc_pk (i := i) (o := 0) (by omega) (by omega))) rfl 1 (by decide) (hts _ mm_X4_goodOf_1) (fun _ hh => hh) rfl dX4_goodOf_3 ?_
  refine lv_iload_n hx hb dX4_goodOf_6 rfl (lv_at hl 2 rfl) ?_
  refine va_iald hx hb hK hP (36 + 20 * i + 2) (36 + 20 * i + 2) (xw_is (r := (36 + 20 * i + 2)) (by omega) (xc_pk (i := i) (o := 2) (by omega) (by omega))) (xt_is (r := (36 + 20 * i + 2)) (by omega) ((xty_pk (i := i) (o := 2) (by omega)).trans rfl)) (i := (nI vb)) (vp_in_nI (by omega) (by decide)) dX4_goodOf_7 ?_
  refine lv_topi (fun z1 ez1 => ?_)
  clear ez1
  refine lv_aload_n hx hb dX4_goodOf_8 rfl (lv_at hl 0 rfl) ?_
  refine lv_iload_n hx hb dX4_goodOf_9 rfl (lv_at hl 2 rfl) ?_
  refine va_calli (va_runV (As := [.int (nI vb)]) (rest := [.int z1, .int (nI va), .ref (A (36 + 20 * i))]) ⟨hx, hb, hml, hown, hts⟩ (x_X4_troubledHours l dC dI ad E hEE A C nb _ hN st sl so i vb (by omega) (by omega) hG.1) (cwV 1 hts gX4_goodOf_X4_troubledHours rfl rfl rfl (by decide +kernel) ⟨Nat.le_of_ble_eq_true rfl, Nat.le_of_ble_eq_true rfl⟩) ⟨fun a U g mk q => ⟨q.1, xPre.blind hEE q.2⟩, va_recv hK hP (ci := 5) (q0 := (36 + 20 * i)) rfl (xw_is (r := (36 + 20 * i)) (by omega) (xc_pk (i := i) (o := 0) (by omega) (by omega))), fun U hU hW => ⟨rfl, xPre.of hEE hP hK hE hS hU hW⟩⟩ rfl rfl hl.1 rfl (lv_room (Nat.le_of_ble_eq_true rfl)) dX4_goodOf_10 ⟨Nat.le_of_ble_eq_true rfl, Nat.le_of_ble_eq_true rfl⟩) hS (fun q _ h => XA.le hS.1 q h) (XA.le hS.1) (fun r2 x t H locs ht hvm hw hB _ _ hS => ?_)
  have hP := xB.at ht hB
  clear hB ht hvm
  obtain ⟨rfl, hw⟩ := hw
  have hP : va_P (dC, dI) vwCl (xw A C nb st sl so) _ := hP
  clear hw
  refine va_calli (va_runV (As := [.int (nI va), .int z1, .int r2]) (rest := []) ⟨hx, hb, hml, hown, hts⟩ (x_X4_goodIf l dC dI ad E hEE A C nb _ hN st sl so i va z1 r2 (by omega) (by omega) hG.1) (cwV 3 hts gX4_goodOf_X4_goodIf rfl rfl rfl (by decide +kernel) ⟨Nat.le_of_ble_eq_true rfl, Nat.le_of_ble_eq_true rfl⟩) ⟨fun a U g mk q => ⟨q.1, xPre.blind hEE q.2⟩, va_recv hK hP (ci := 5) (q0 := (36 + 20 * i)) rfl (xw_is (r := (36 + 20 * i)) (by omega) (xc_pk (i := i) (o := 0) (by omega) (by omega))), fun U hU hW => ⟨rfl, xPre.of hEE hP hK hE hS hU hW⟩⟩ rfl rfl hl.1 rfl (lv_room (Nat.le_of_ble_eq_true rfl)) dX4_goodOf_13 ⟨Nat.le_of_ble_eq_true rfl, Nat.le_of_ble_eq_true rfl⟩) hS (fun q _ h => XA.le hS.1 q h) (XA.le hS.1) (fun r3 x t H locs ht hvm hw hB _ _ hS => ?_)
  have hP := xB.at ht hB
  clear hB ht hvm
  obtain ⟨rfl, hw⟩ := hw
  have hP : va_P (dC, dI) vwCl (xw A C nb st sl so) _ := hP
  clear hw
  exact W.iret (v := r3) hx hb hr (fun t ht hW => ⟨⟨r3, (st, sl, so), rfl, ⟨rfl, trivial⟩, xB.of ht hP⟩, hS.F ht⟩) hS.2.2 dX4_goodOf_16
