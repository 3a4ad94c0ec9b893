set_option maxHeartbeats 4000000 in
set_option maxRecDepth 100000 in
theorem x_X11_days (l : Launch) (dC : Nat → ClassId) (dI : Nat → Nat → Nat) (ad : Nat → Nat) (E : EP) (hEE : EC ad E) (A : Nat → Nat) (C : Nat → ClassId) (nb sz : Nat) (hN : XN A) (st : Nat → Nat → Int32) (sl : Nat → Nat → Int64) (so : Nat → XR) (va : Int32) (vb : Int32) (hI : XI st) : Met l yX11_days wsX11_days ({ frames := 5, cells := 0, slots := 0, locals := 123 }) (va_Pc [.ref (A 0), .int va, .int vb] (xPre E dC dI A C nb sz st sl so)) (va_Qi (fun (r : Int32) (x : XT) => XG [1, 2, 4, 5, 13, 12, 14] st x.1 ∧ x.2.2 = so ∧ (NI st sl x.1 x.2.1)) (xB dC dI A C nb) (XA A sz)) 0 0 (XA A sz) := by
  refine Met.ofW (cc := cX11_days) (maxL := 4) (ret := (some .int)) (by decide) rfl ?_
  intro p e s m args below meth c s₁ B hml hv
  obtain ⟨rfl, hsz, hP, hK, hE⟩ := hv
  have hx := B.exec
  have hb := B.bytes
  have hr := B.returns
  have hts := atoms_spec (ws := wsX11_days) B.pre
  have hown : s.vm.findClass RX11 = some m.cls := findClass_of_methodNamed B.named
  subst hsz
  have hEv := hEE.1 _ _ _ hE
  have hS : va_S (XA A s.heap.size) s.heap s.heap [] := va_S.rf
  have hG : XG [1, 2, 4, 5, 13, 12, 14] st st := XG.rf hI
  have hl := lv_entry ([.ref (A 0), .int va, .int vb]) (n := 4) (Nat.le_of_ble_eq_true rfl)
  rw [lg_entry_eq]
  generalize (lg_sl ([.ref (A 0), .int va, .int vb]) ++ List.replicate (4 - (lg_sl ([.ref (A 0), .int va, .int vb])).length) Slot.unset).toArray = ls at hl ⊢
  have hl : lv_has ls 4 [(0, .ref (A 0)), (1, .int va), (2, .int vb)] := hl
  have hni : NI st sl st sl := NI.rf
  refine lv_iload_n hx hb dX11_days_0 rfl (lv_at hl 1 rfl) ?_
  refine lv_iconst (v := 1) hx hb dX11_days_1 (by decide) ?_
  refine lv_icmp_lt (tgt := 11) hx hb dX11_days_2 (by decide) (fun c1 => ?_) (fun c1 => ?_)
  · refine lv_iconst (v := (-1)) hx hb dX11_days_11 (by decide) ?_
    exact W.iret (v := (-1)) hx hb hr (fun t ht hW => ⟨⟨(-1), (st, sl, so), rfl, ⟨hG, rfl, hni⟩, xB.of ht hP⟩, hS.F ht⟩) hS.2.2 dX11_days_12
  · refine lv_iload_n hx hb dX11_days_5 rfl (lv_at hl 1 rfl) ?_
    refine lv_bipush (v := 30) hx hb dX11_days_6 (by decide) ?_
    refine lv_icmp_le (tgt := 13) hx hb dX11_days_8 (by decide) (fun c2 => ?_) (fun c2 => ?_)
    · refine lv_aload_n hx hb dX11_days_13 rfl (lv_at hl 0 rfl) ?_
      refine va_get (D := (dC, dI)) (ci := 10) (v := .ref (A 11)) (C := RX11) (T := TX11) (N := 19) hx hb hts ii_X11_days_X11 hown hK hP 0 (xw_is (r := 0) (by omega) (xc_fix (r := 0) (by omega))) rfl 8 (by decide) (hts _ mm_X11_days_1) (fun _ hh => hh) rfl dX11_days_14 ?_
      refine lv_aload_n hx hb dX11_days_17 rfl (lv_at hl 0 rfl) ?_
      refine va_get (D := (dC, dI)) (ci := 10) (v := .ref (A (36 + 20 * 0))) (C := RX11) (T := TX11) (N := 19) hx hb hts ii_X11_days_X11 hown hK hP 0 (xw_is (r := 0) (by omega) (xc_fix (r := 0) (by omega))) rfl 1 (by decide) (hts _ mm_X11_days_2) (fun _ hh => hh) rfl dX11_days_18 ?_
      refine va_callv (va_runV (As := [.ref (A (36 + 20 * 0))]) (rest := []) ⟨hx, hb, hml, hown, hts⟩ (x_X3_mark l dC dI ad E hEE A C nb _ hN st sl so  hG.1) (cwV 1 hts gX11_days_X3_mark rfl rfl rfl (by decide +kernel) ⟨Nat.le_of_ble_eq_true rfl, Nat.le_of_ble_eq_true rfl⟩) ⟨fun a U g mk q => ⟨q.1, xPre.blind hEE q.2⟩, va_recv hK hP (ci := 4) (q0 := 11) rfl (xw_is (r := 11) (by omega) (xc_fix (r := 11) (by omega))), fun U hU hW => ⟨rfl, xPre.of hEE hP hK hE hS hU hW⟩⟩ rfl rfl hl.1 rfl (lv_room (Nat.le_of_ble_eq_true rfl)) dX11_days_21 ⟨Nat.le_of_ble_eq_true rfl, Nat.le_of_ble_eq_true rfl⟩) hS (fun q _ h => XA.le hS.1 q h) (XA.le hS.1) (fun x t H locs ht hvm hw hB _ _ hS => ?_)
      have hP := xB.at ht hB
      clear hB ht hvm
      obtain ⟨st2, sl3, so4⟩ := x
      obtain ⟨hGst2, hOst2, hw⟩ := hw
      dsimp only at hGst2 hOst2 hw
      replace hOst2 := hOst2.symm
      subst hOst2
      have hP : va_P (dC, dI) vwCl (xw A C nb st2 sl3 so) _ := hP
      have hG : XG [1, 2, 4, 5, 13, 12, 14] st st2 := hG.tr hGst2 (by decide)
      obtain ⟨hf5, hf6⟩ := hw
      have hni : NI st sl st2 sl3 := hni.tr hf5
      have hmk : MKD st2 sl3 := hf6
      refine lv_aload_n hx hb dX11_days_24 rfl (lv_at hl 0 rfl) ?_
      refine va_get (D := (dC, dI)) (ci := 10) (v := .ref (A 10)) (C := RX11) (T := TX11) (N := 19) hx hb hts ii_X11_days_X11 hown hK hP 0 (xw_is (r := 0) (by omega) (xc_fix (r := 0) (by omega))) rfl 7 (by decide) (hts _ mm_X11_days_3) (fun _ hh => hh) rfl dX11_days_25 ?_
      refine lv_aload_n hx hb dX11_days_28 rfl (lv_at hl 0 rfl) ?_
      refine va_get (D := (dC, dI)) (ci := 10) (v := .ref (A (36 + 20 * 0))) (C := RX11) (T := TX11) (N := 19) hx hb hts ii_X11_days_X11 hown hK hP 0 (xw_is (r := 0) (by omega) (xc_fix (r := 0) (by omega))) rfl 1 (by decide) (hts _ mm_X11_days_2) (fun _ hh => hh) rfl dX11_days_29 ?_
      refine lv_iload_n hx hb dX11_days_32 rfl (lv_at hl 1 rfl) ?_
      refine lv_iload_n hx hb dX11_days_33 rfl (lv_at hl 2 rfl) ?_
      refine va_calli (va_runV (As := [.ref (A (36 + 20 * 0)), .int va, .int vb]) (rest := []) ⟨hx, hb, hml, hown, hts⟩ (x_X1_live l dC dI ad E hEE A C nb _ hN st2 sl3 so 0 va vb (by omega) hG.1) (cwV 3 hts gX11_days_X1_live rfl rfl rfl (by decide +kernel) ⟨Nat.le_of_ble_eq_true rfl, Nat.le_of_ble_eq_true rfl⟩) ⟨fun a U g mk q => ⟨q.1, xPre.blind hEE q.2⟩, va_recv hK hP (ci := 2) (q0 := 10) rfl (xw_is (r := 10) (by omega) (xc_fix (r := 10) (by omega))), fun U hU hW => ⟨rfl, xPre.of hEE hP hK hE hS hU hW⟩⟩ rfl rfl hl.1 rfl (lv_room (Nat.le_of_ble_eq_true rfl)) dX11_days_34 ⟨Nat.le_of_ble_eq_true rfl, Nat.le_of_ble_eq_true rfl⟩) hS (fun q _ h => XA.le hS.1 q h) (XA.le hS.1) (fun r7 x t H locs ht hvm hw hB _ _ hS => ?_)
      have hP := xB.at ht hB
      clear hB ht hvm
      obtain ⟨st8, sl9, so10⟩ := x
      obtain ⟨hGst8, hLGst8, hOst8, hw⟩ := hw
      dsimp only at hGst8 hLGst8 hOst8 hw
      replace hOst8 := hOst8.symm
      subst hOst8
      have hP : va_P (dC, dI) vwCl (xw A C nb st8 sl9 so) _ := hP
      have hG : XG [1, 2, 4, 5, 13, 12, 14] st st8 := hG.tr hGst8 (by decide)
      clear hw
      have hni : NI st sl st8 sl9 := hni.mg hGst8 (by decide) (by decide) hLGst8
      have hmk : MKD st8 sl9 := hmk.mg hGst8 (by decide) (by decide) hLGst8
      refine lv_istore_n (lv' := [(3, .int r7), (0, .ref (A 0)), (1, .int va), (2, .int vb)]) hx hb dX11_days_37 rfl hl (by decide) rfl (fun ls hl => ?_)
      refine lv_iload_n hx hb dX11_days_38 rfl (lv_at hl 0 rfl) ?_
      refine lv_if_le (tgt := 49) hx hb dX11_days_39 (by decide) (fun c3 => ?_) (fun c3 => ?_)
      · refine lv_iload_n hx hb dX11_days_49 rfl (lv_at hl 0 rfl) ?_
        exact W.iret (v := r7) hx hb hr (fun t ht hW => ⟨⟨r7, (st8, sl9, so), rfl, ⟨hG, rfl, hni⟩, xB.of ht hP⟩, hS.F ht⟩) hS.2.2 dX11_days_50
      · refine lv_aload_n hx hb dX11_days_42 rfl (lv_at hl 1 rfl) ?_
        refine va_get (D := (dC, dI)) (ci := 10) (v := .ref (A 11)) (C := RX11) (T := TX11) (N := 19) hx hb hts ii_X11_days_X11 hown hK hP 0 (xw_is (r := 0) (by omega) (xc_fix (r := 0) (by omega))) rfl 8 (by decide) (hts _ mm_X11_days_1) (fun _ hh => hh) rfl dX11_days_43 ?_
        refine va_callv (va_runV (As := []) (rest := []) ⟨hx, hb, hml, hown, hts⟩ (x_X3_keepMarked l dC dI ad E hEE A C nb _ hN st8 sl9 so  hG.1) (cwV 0 hts gX11_days_X3_keepMarked rfl rfl rfl (by decide +kernel) ⟨Nat.le_of_ble_eq_true rfl, Nat.le_of_ble_eq_true rfl⟩) ⟨fun a U g mk q => ⟨q.1, xPre.blind hEE q.2⟩, va_recv hK hP (ci := 4) (q0 := 11) rfl (xw_is (r := 11) (by omega) (xc_fix (r := 11) (by omega))), fun U hU hW => ⟨rfl, xPre.of hEE hP hK hE hS hU hW⟩⟩ rfl rfl hl.1 rfl (lv_room (Nat.le_of_ble_eq_true rfl)) dX11_days_46 ⟨Nat.le_of_ble_eq_true rfl, Nat.le_of_ble_eq_true rfl⟩) hS (fun q _ h => XA.le hS.1 q h) (XA.le hS.1) (fun x t H locs ht hvm hw hB _ _ hS => ?_)
        have hP := xB.at ht hB
        clear hB ht hvm
        obtain ⟨st12, sl13, so14⟩ := x
        obtain ⟨hGst12, hLGst12, hOst12, hw⟩ := hw
        dsimp only at hGst12 hLGst12 hOst12 hw
        replace hOst12 := hOst12.symm
        subst hOst12
        have hP : va_P (dC, dI) vwCl (xw A C nb st12 sl13 so) _ := hP
        have hG : XG [1, 2, 4, 5, 13, 12, 14] st st12 := hG.tr hGst12 (by decide)
        have hf15 := hw
        have hni : NI st sl st12 sl13 := hni.kp hmk hf15 hGst12 (by decide) hLGst12
        refine lv_iload_n hx hb dX11_days_49 rfl (lv_at hl 0 rfl) ?_
        exact W.iret (v := r7) hx hb hr (fun t ht hW => ⟨⟨r7, (st12, sl13, so), rfl, ⟨hG, rfl, hni⟩, xB.of ht hP⟩, hS.F ht⟩) hS.2.2 dX11_days_50
    · refine lv_iconst (v := (-1)) hx hb dX11_days_11 (by decide) ?_
      exact W.iret (v := (-1)) hx hb hr (fun t ht hW => ⟨⟨(-1), (st, sl, so), rfl, ⟨hG, rfl, hni⟩, xB.of ht hP⟩, hS.F ht⟩) hS.2.2 dX11_days_12
set_option maxHeartbeats 4000000 in
set_option maxRecDepth 100000 in
theorem x_X11_undo (l : Launch) (dC : Nat → ClassId) (dI : Nat → Nat → Nat) (ad : Nat → Nat) (E : EP) (hEE : EC ad E) (A : Nat → Nat) (C : Nat → ClassId) (nb sz : Nat) (hN : XN A) (st : Nat → Nat → Int32) (sl : Nat → Nat → Int64) (so : Nat → XR) (hI : XI st) : Met l yX11_undo wsX11_undo ({ frames := 3, cells := 0, slots := 0, locals := 64 }) (va_Pc [.ref (A 0)] (xPre E dC dI A C nb sz st sl so)) (va_Qi (fun (r : Int32) (x : XT) => XG [1, 2, 4, 5, 13, 12, 14] st x.1 ∧ x.2.2 = so ∧ (NI st sl x.1 x.2.1)) (xB dC dI A C nb) (XA A sz)) 0 0 (XA A sz) := by
  refine Met.ofW (cc := cX11_undo) (maxL := 1) (ret := (some .int)) (by decide) rfl ?_
  intro p e s m args below meth c s₁ B hml hv
  obtain ⟨rfl, hsz, hP, hK, hE⟩ := hv
  have hx := B.exec
  have hb := B.bytes
  have hr := B.returns
  have hts := atoms_spec (ws := wsX11_undo) B.pre
  have hown : s.vm.findClass RX11 = some m.cls := findClass_of_methodNamed B.named
  subst hsz
  have hEv := hEE.1 _ _ _ hE
  have hS : va_S (XA A s.heap.size) s.heap s.heap [] := va_S.rf
  have hG : XG [1, 2, 4, 5, 13, 12, 14] st st := XG.rf hI
  have hl := lv_entry ([.ref (A 0)]) (n := 1) (Nat.le_of_ble_eq_true rfl)
  rw [lg_entry_eq]
  generalize (lg_sl ([.ref (A 0)]) ++ List.replicate (1 - (lg_sl ([.ref (A 0)])).length) Slot.unset).toArray = ls at hl ⊢
  have hl : lv_has ls 1 [(0, .ref (A 0))] := hl
  have hni : NI st sl st sl := NI.rf
  refine lv_aload_n hx hb dX11_undo_0 rfl (lv_at hl 0 rfl) ?_
  refine va_get (D := (dC, dI)) (ci := 10) (v := .ref (A 11)) (C := RX11) (T := TX11) (N := 19) hx hb hts ii_X11_undo_X11 hown hK hP 0 (xw_is (r := 0) (by omega) (xc_fix (r := 0) (by omega))) rfl 8 (by decide) (hts _ mm_X11_undo_1) (fun _ hh => hh) rfl dX11_undo_1 ?_
  refine lv_aload_n hx hb dX11_undo_4 rfl (lv_at hl 0 rfl) ?_
  refine va_get (D := (dC, dI)) (ci := 10) (v := .ref (A (36 + 20 * 0))) (C := RX11) (T := TX11) (N := 19) hx hb hts ii_X11_undo_X11 hown hK hP 0 (xw_is (r := 0) (by omega) (xc_fix (r := 0) (by omega))) rfl 1 (by decide) (hts _ mm_X11_undo_2) (fun _ hh => hh) rfl dX11_undo_5 ?_
  refine va_calli (va_runV (As := [.ref (A (36 + 20 * 0))]) (rest := []) ⟨hx, hb, hml, hown, hts⟩ (x_X3_takeBack l dC dI ad E hEE A C nb _ hN st sl so  hG.1) (cwV 1 hts gX11_undo_X3_takeBack rfl rfl rfl (by decide +kernel) ⟨Nat.le_of_ble_eq_true rfl, Nat.le_of_ble_eq_true rfl⟩) ⟨fun a U g mk q => ⟨q.1, xPre.blind hEE q.2⟩, va_recv hK hP (ci := 4) (q0 := 11) rfl (xw_is (r := 11) (by omega) (xc_fix (r := 11) (by omega))), fun U hU hW => ⟨rfl, xPre.of hEE hP hK hE hS hU hW⟩⟩ rfl rfl hl.1 rfl (lv_room (Nat.le_of_ble_eq_true rfl)) dX11_undo_8 ⟨Nat.le_of_ble_eq_true rfl, Nat.le_of_ble_eq_true rfl⟩) hS (fun q _ h => XA.le hS.1 q h) (XA.le hS.1) (fun r1 x t H locs ht hvm hw hB _ _ hS => ?_)
  have hP := xB.at ht hB
  clear hB ht hvm
  obtain ⟨st2, sl3, so4⟩ := x
  obtain ⟨hGst2, hOst2, hw⟩ := hw
  dsimp only at hGst2 hOst2 hw
  replace hOst2 := hOst2.symm
  subst hOst2
  have hP : va_P (dC, dI) vwCl (xw A C nb st2 sl3 so) _ := hP
  have hG : XG [1, 2, 4, 5, 13, 12, 14] st st2 := hG.tr hGst2 (by decide)
  rcases hw with ⟨rfl, hf5⟩ | ⟨rfl, hf6⟩
  · have hni : NI st sl st2 sl3 := hni.tr hf5
    refine lv_if_eq (tgt := 24) hx hb dX11_undo_11 (by decide) (fun cc => absurd cc (by decide)) (fun _ => ?_)
    refine lv_aload_n hx hb dX11_undo_14 rfl (lv_at hl 0 rfl) ?_
    refine va_get (D := (dC, dI)) (ci := 10) (v := .ref (A 11)) (C := RX11) (T := TX11) (N := 19) hx hb hts ii_X11_undo_X11 hown hK hP 0 (xw_is (r := 0) (by omega) (xc_fix (r := 0) (by omega))) rfl 8 (by decide) (hts _ mm_X11_undo_1) (fun _ hh => hh) rfl dX11_undo_15 ?_
    refine va_getN (host := "OffTheLead") (D := (dC, dI)) (ci := 4) (v := .int (st2 11 2)) (C := RX3) (T := TX3) (N := 3) hx hb hts ii_X11_undo_X3 hown hK hP 11 (xw_is (r := 11) (by omega) (xc_fix (r := 11) (by omega))) rfl 2 (by decide) (va_Nw.use rfl (nf_X11_275 hEv)) (fun _ hh => hh) rfl dX11_undo_18 ?_
    obtain ⟨z7, ez7⟩ : ∃ y : Int32, st2 11 2 = y := ⟨_, rfl⟩
    refine zz_top (v := z7) (by exact ez7) ?_
    refine lv_goto (tgt := 25) hx hb dX11_undo_21 (by decide) ?_
    exact W.iret (v := z7) hx hb hr (fun t ht hW => ⟨⟨z7, (st2, sl3, so), rfl, ⟨hG, rfl, hni⟩, xB.of ht hP⟩, hS.F ht⟩) hS.2.2 dX11_undo_25
  · have hni : NI st sl st2 sl3 := hni.tr hf6
    refine lv_if_eq (tgt := 24) hx hb dX11_undo_11 (by decide) (fun _ => ?_) (fun cc => absurd (by decide) cc)
    refine lv_iconst (v := (-1)) hx hb dX11_undo_24 (by decide) ?_
    exact W.iret (v := (-1)) hx hb hr (fun t ht hW => ⟨⟨(-1), (st2, sl3, so), rfl, ⟨hG, rfl, hni⟩, xB.of ht hP⟩, hS.F ht⟩) hS.2.2 dX11_undo_25
set_option maxHeartbeats 4000000 in
set_option maxRecDepth 100000 in
theorem x_X11_there (l : Launch) (dC : Nat → ClassId) (dI : Nat → Nat → Nat) (ad : Nat → Nat) (E : EP) (hEE : EC ad E) (A : Nat → Nat) (C : Nat → ClassId) (nb sz : Nat) (hN : XN A) (st : Nat → Nat → Int32) (sl : Nat → Nat → Int64) (so : Nat → XR) (va : Int32) (vb : Int32) (hI : XI st) : Met l yX11_there wsX11_there ({ frames := 2, cells := 0, slots := 0, locals := 46 }) (va_Pc [.ref (A 0), .int va, .int vb] (xPre E dC dI A C nb sz st sl so)) (va_Qi (fun (r : Int32) (x : XT) => XG [1, 2, 4, 5, 13, 15, 7, 12, 14] st x.1 ∧ LGq sl x.2.1 ∧ x.2.2 = so ∧ (True)) (xB dC dI A C nb) (XA A sz)) 0 0 (XA A sz) := by
  refine Met.ofW (cc := cX11_there) (maxL := 3) (ret := (some .int)) (by decide) rfl ?_
  intro p e s m args below meth c s₁ B hml hv
  obtain ⟨rfl, hsz, hP, hK, hE⟩ := hv
  have hx := B.exec
  have hb := B.bytes
  have hr := B.returns
  have hts := atoms_spec (ws := wsX11_there) B.pre
  have hown : s.vm.findClass RX11 = some m.cls := findClass_of_methodNamed B.named
  subst hsz
  have hEv := hEE.1 _ _ _ hE
  have hS : va_S (XA A s.heap.size) s.heap s.heap [] := va_S.rf
  have hG : XG [1, 2, 4, 5, 13, 15, 7, 12, 14] st st := XG.rf hI
  have hl := lv_entry ([.ref (A 0), .int va, .int vb]) (n := 3) (Nat.le_of_ble_eq_true rfl)
  rw [lg_entry_eq]
  generalize (lg_sl ([.ref (A 0), .int va, .int vb]) ++ List.replicate (3 - (lg_sl ([.ref (A 0), .int va, .int vb])).length) Slot.unset).toArray = ls at hl ⊢
  have hl : lv_has ls 3 [(0, .ref (A 0)), (1, .int va), (2, .int vb)] := hl
  have hL : LGq sl sl := LGq.rf
  refine lv_aload_n hx hb dX11_there_0 rfl (lv_at hl 0 rfl) ?_
  refine va_get (D := (dC, dI)) (ci := 10) (v := .ref (A (36 + 20 * 0))) (C := RX11) (T := TX11) (N := 19) hx hb hts ii_X11_there_X11 hown hK hP 0 (xw_is (r := 0) (by omega) (xc_fix (r := 0) (by omega))) rfl 1 (by decide) (hts _ mm_X11_there_1) (fun _ hh => hh) rfl dX11_there_1 ?_
  refine lv_iload_n hx hb dX11_there_4 rfl (lv_at hl 1 rfl) ?_
  refine va_calli (va_runV (As := [.int va]) (rest := []) ⟨hx, hb, hml, hown, hts⟩ (x_X4_hasPlace l dC dI ad E hEE A C nb _ hN st sl so 0 va (by omega) hG.1) (cwV 1 hts gX11_there_X4_hasPlace rfl rfl rfl (by decide +kernel) ⟨Nat.le_of_ble_eq_true rfl, Nat.le_of_ble_eq_true rfl⟩) ⟨fun a U g mk q => ⟨q.1, xPre.blind hEE q.2⟩, va_recv hK hP (ci := 5) (q0 := (36 + 20 * 0)) rfl (xw_is (r := (36 + 20 * 0)) (by omega) (xc_pk (i := 0) (o := 0) (by omega) (by omega))), fun U hU hW => ⟨rfl, xPre.of hEE hP hK hE hS hU hW⟩⟩ rfl rfl hl.1 rfl (lv_room (Nat.le_of_ble_eq_true rfl)) dX11_there_5 ⟨Nat.le_of_ble_eq_true rfl, Nat.le_of_ble_eq_true rfl⟩) hS (fun q _ h => XA.le hS.1 q h) (XA.le hS.1) (fun r1 x t H locs ht hvm hw hB _ _ hS => ?_)
  have hP := xB.at ht hB
  clear hB ht hvm
  obtain ⟨rfl, hw⟩ := hw
  have hP : va_P (dC, dI) vwCl (xw A C nb st sl so) _ := hP
  rcases hw with ⟨n2, rfl, hf3, rfl⟩ | rfl
  · refine lv_if_eq (tgt := 19) hx hb dX11_there_8 (by decide) (fun cc => absurd cc (by decide)) (fun _ => ?_)
    refine lv_iload_n hx hb dX11_there_11 rfl (lv_at hl 2 rfl) ?_
    refine lv_iload_n hx hb dX11_there_12 rfl (lv_at hl 2 rfl) ?_
    refine va_calli (va_runS (As := [.int vb, .int vb]) (rest := []) ⟨hx, hb, hml, hown, hts⟩ (x_X11_areHours l dC dI ad E hEE A C nb _ hN st sl so vb vb  hG.1) (va_cwS 2 hts gX11_there_X11_areHours rfl rfl rfl (by decide +kernel) ⟨Nat.le_of_ble_eq_true rfl, Nat.le_of_ble_eq_true rfl⟩) ⟨fun a U g mk q => ⟨q.1, xPre.blind hEE q.2⟩, fun U hU hW => ⟨rfl, xPre.of hEE hP hK hE hS hU hW⟩⟩ rfl rfl hl.1 rfl (lv_room (Nat.le_of_ble_eq_true rfl)) dX11_there_13 ⟨Nat.le_of_ble_eq_true rfl, Nat.le_of_ble_eq_true rfl⟩) hS (fun q _ h => XA.le hS.1 q h) (XA.le hS.1) (fun r4 x t H locs ht hvm hw hB _ _ hS => ?_)
    have hP := xB.at ht hB
    clear hB ht hvm
    obtain ⟨rfl, hw⟩ := hw
    have hP : va_P (dC, dI) vwCl (xw A C nb st sl so) _ := hP
    rcases hw with rfl | rfl
    · refine lv_if_ne (tgt := 21) hx hb dX11_there_16 (by decide) (fun _ => ?_) (fun cc => absurd cc (by decide))
      refine lv_aload_n hx hb dX11_there_21 rfl (lv_at hl 0 rfl) ?_
      refine va_get (D := (dC, dI)) (ci := 10) (v := .ref (A (36 + 20 * 0))) (C := RX11) (T := TX11) (N := 19) hx hb hts ii_X11_there_X11 hown hK hP 0 (xw_is (r := 0) (by omega) (xc_fix (r := 0) (by omega))) rfl 1 (by decide) (hts _ mm_X11_there_1) (fun _ hh => hh) rfl dX11_there_22 ?_
      refine lv_iload_n hx hb dX11_there_25 rfl (lv_at hl 1 rfl) ?_
      refine lv_iload_n hx hb dX11_there_26 rfl (lv_at hl 2 rfl) ?_
      refine va_calli (va_runV (As := [.int (nI n2), .int vb]) (rest := []) ⟨hx, hb, hml, hown, hts⟩ (x_X4_thoseThere l dC dI ad E hEE A C nb _ hN st sl so 0 (nI n2) vb (by omega) hG.1) (cwV 2 hts gX11_there_X4_thoseThere rfl rfl rfl (by decide +kernel) ⟨Nat.le_of_ble_eq_true rfl, Nat.le_of_ble_eq_true rfl⟩) ⟨fun a U g mk q => ⟨q.1, xPre.blind hEE q.2⟩, va_recv hK hP (ci := 5) (q0 := (36 + 20 * 0)) rfl (xw_is (r := (36 + 20 * 0)) (by omega) (xc_pk (i := 0) (o := 0) (by omega) (by omega))), fun U hU hW => ⟨rfl, xPre.of hEE hP hK hE hS hU hW⟩⟩ rfl rfl hl.1 rfl (lv_room (Nat.le_of_ble_eq_true rfl)) dX11_there_27 ⟨Nat.le_of_ble_eq_true rfl, Nat.le_of_ble_eq_true rfl⟩) hS (fun q _ h => XA.le hS.1 q h) (XA.le hS.1) (fun r5 x t H locs ht hvm hw hB _ _ hS => ?_)
      have hP := xB.at ht hB
      clear hB ht hvm
      obtain ⟨rfl, hw⟩ := hw
      have hP : va_P (dC, dI) vwCl (xw A C nb st sl so) _ := hP
      clear hw
      exact W.iret (v := r5) hx hb hr (fun t ht hW => ⟨⟨r5, (st, sl, so), rfl, ⟨hG, hL, rfl, trivial⟩, xB.of ht hP⟩, hS.F ht⟩) hS.2.2 dX11_there_30
    · refine lv_if_ne (tgt := 21) hx hb dX11_there_16 (by decide) (fun cc => absurd (by decide) cc) (fun _ => ?_)
      refine lv_iconst (v := (-1)) hx hb dX11_there_19 (by decide) ?_
      exact W.iret (v := (-1)) hx hb hr (fun t ht hW => ⟨⟨(-1), (st, sl, so), rfl, ⟨hG, hL, rfl, trivial⟩, xB.of ht hP⟩, hS.F ht⟩) hS.2.2 dX11_there_20
  · refine lv_if_eq (tgt := 19) hx hb dX11_there_8 (by decide) (fun _ => ?_) (fun cc => absurd (by decide) cc)
    refine lv_iconst (v := (-1)) hx hb dX11_there_19 (by decide) ?_
    exact W.iret (v := (-1)) hx hb hr (fun t ht hW => ⟨⟨(-1), (st, sl, so), rfl, ⟨hG, hL, rfl, trivial⟩, xB.of ht hP⟩, hS.F ht⟩) hS.2.2 dX11_there_20
set_option maxHeartbeats 4000000 in
set_option maxRecDepth 100000 in
theorem x_X11_meets (l : Launch) (dC : Nat → ClassId) (dI : Nat → Nat → Nat) (ad : Nat → Nat) (E : EP) (hEE : EC ad E) (A : Nat → Nat) (C : Nat → ClassId) (nb sz : Nat) (hN : XN A) (st : Nat → Nat → Int32) (sl : Nat → Nat → Int64) (so : Nat → XR) (va : Int32) (vb : Int32) (hI : XI st) : Met l yX11_meets wsX11_meets ({ frames := 3, cells := 0, slots := 0, locals := 63 }) (va_Pc [.ref (A 0), .int va, .int vb] (xPre E dC dI A C nb sz st sl so)) (va_Qi (fun (r : Int32) (x : XT) => XG [1, 2, 4, 5, 13, 15, 7, 12, 14] st x.1 ∧ LGq sl x.2.1 ∧ x.2.2 = so ∧ (True)) (xB dC dI A C nb) (XA A sz)) 0 0 (XA A sz) := by
  refine Met.ofW (cc := cX11_meets) (maxL := 3) (ret := (some .int)) (by decide) rfl ?_
  intro p e s m args below meth c s₁ B hml hv
  obtain ⟨rfl, hsz, hP, hK, hE⟩ := hv
  have hx := B.exec
  have hb := B.bytes
  have hr := B.returns
  have hts := atoms_spec (ws := wsX11_meets) B.pre
  have hown : s.vm.findClass RX11 = some m.cls := findClass_of_methodNamed B.named
  subst hsz
  have hEv := hEE.1 _ _ _ hE
  have hS : va_S (XA A s.heap.size) s.heap s.heap [] := va_S.rf
  have hG : XG [1, 2, 4, 5, 13, 15, 7, 12, 14] st st := XG.rf hI
  have hl := lv_entry ([.ref (A 0), .int va, .int vb]) (n := 3) (Nat.le_of_ble_eq_true rfl)
  rw [lg_entry_eq]
  generalize (lg_sl ([.ref (A 0), .int va, .int vb]) ++ List.replicate (3 - (lg_sl ([.ref (A 0), .int va, .int vb])).length) Slot.unset).toArray = ls at hl ⊢
  have hl : lv_has ls 3 [(0, .ref (A 0)), (1, .int va), (2, .int vb)] := hl
  have hL : LGq sl sl := LGq.rf
  refine lv_aload_n hx hb dX11_meets_0 rfl (lv_at hl 0 rfl) ?_
  refine va_get (D := (dC, dI)) (ci := 10) (v := .ref (A (36 + 20 * 0))) (C := RX11) (T := TX11) (N := 19) hx hb hts ii_X11_meets_X11 hown hK hP 0 (xw_is (r := 0) (by omega) (xc_fix (r := 0) (by omega))) rfl 1 (by decide) (hts _ mm_X11_meets_1) (fun _ hh => hh) rfl dX11_meets_1 ?_
  refine lv_iload_n hx hb dX11_meets_4 rfl (lv_at hl 1 rfl) ?_
  refine va_calli (va_runV (As := [.int va]) (rest := []) ⟨hx, hb, hml, hown, hts⟩ (x_X4_hasPerson l dC dI ad E hEE A C nb _ hN st sl so 0 va (by omega) hG.1) (cwV 1 hts gX11_meets_X4_hasPerson rfl rfl rfl (by decide +kernel) ⟨Nat.le_of_ble_eq_true rfl, Nat.le_of_ble_eq_true rfl⟩) ⟨fun a U g mk q => ⟨q.1, xPre.blind hEE q.2⟩, va_recv hK hP (ci := 5) (q0 := (36 + 20 * 0)) rfl (xw_is (r := (36 + 20 * 0)) (by omega) (xc_pk (i := 0) (o := 0) (by omega) (by omega))), fun U hU hW => ⟨rfl, xPre.of hEE hP hK hE hS hU hW⟩⟩ rfl rfl hl.1 rfl (lv_room (Nat.le_of_ble_eq_true rfl)) dX11_meets_5 ⟨Nat.le_of_ble_eq_true rfl, Nat.le_of_ble_eq_true rfl⟩) hS (fun q _ h => XA.le hS.1 q h) (XA.le hS.1) (fun r1 x t H locs ht hvm hw hB _ _ hS => ?_)
  have hP := xB.at ht hB
  clear hB ht hvm
  obtain ⟨rfl, hw⟩ := hw
  have hP : va_P (dC, dI) vwCl (xw A C nb st sl so) _ := hP
  rcases hw with ⟨n2, rfl, hf3, rfl⟩ | rfl
  · refine lv_if_eq (tgt := 27) hx hb dX11_meets_8 (by decide) (fun cc => absurd cc (by decide)) (fun _ => ?_)
    refine lv_aload_n hx hb dX11_meets_11 rfl (lv_at hl 0 rfl) ?_
    refine va_get (D := (dC, dI)) (ci := 10) (v := .ref (A (36 + 20 * 0))) (C := RX11) (T := TX11) (N := 19) hx hb hts ii_X11_meets_X11 hown hK hP 0 (xw_is (r := 0) (by omega) (xc_fix (r := 0) (by omega))) rfl 1 (by decide) (hts _ mm_X11_meets_1) (fun _ hh => hh) rfl dX11_meets_12 ?_
    refine lv_iload_n hx hb dX11_meets_15 rfl (lv_at hl 2 rfl) ?_
    refine va_calli (va_runV (As := [.int vb]) (rest := []) ⟨hx, hb, hml, hown, hts⟩ (x_X4_hasPerson l dC dI ad E hEE A C nb _ hN st sl so 0 vb (by omega) hG.1) (cwV 1 hts gX11_meets_X4_hasPerson rfl rfl rfl (by decide +kernel) ⟨Nat.le_of_ble_eq_true rfl, Nat.le_of_ble_eq_true rfl⟩) ⟨fun a U g mk q => ⟨q.1, xPre.blind hEE q.2⟩, va_recv hK hP (ci := 5) (q0 := (36 + 20 * 0)) rfl (xw_is (r := (36 + 20 * 0)) (by omega) (xc_pk (i := 0) (o := 0) (by omega) (by omega))), fun U hU hW => ⟨rfl, xPre.of hEE hP hK hE hS hU hW⟩⟩ rfl rfl hl.1 rfl (lv_room (Nat.le_of_ble_eq_true rfl)) dX11_meets_16 ⟨Nat.le_of_ble_eq_true rfl, Nat.le_of_ble_eq_true rfl⟩) hS (fun q _ h => XA.le hS.1 q h) (XA.le hS.1) (fun r4 x t H locs ht hvm hw hB _ _ hS => ?_)
    have hP := xB.at ht hB
    clear hB ht hvm
    obtain ⟨rfl, hw⟩ := hw
    have hP : va_P (dC, dI) vwCl (xw A C nb st sl so) _ := hP
    rcases hw with ⟨n5, rfl, hf6, rfl⟩ | rfl
    · refine lv_if_eq (tgt := 27) hx hb dX11_meets_19 (by decide) (fun cc => absurd cc (by decide)) (fun _ => ?_)
      refine lv_iload_n hx hb dX11_meets_22 rfl (lv_at hl 1 rfl) ?_
      refine lv_iload_n hx hb dX11_meets_23 rfl (lv_at hl 2 rfl) ?_
      refine lv_icmp_ne (tgt := 29) hx hb dX11_meets_24 (by decide) (fun c3 => ?_) (fun c3 => ?_)
      · have c3 : ¬ n2 = n5 := fun hh => c3 ((nI_eq (a := n2) (b := n5) (by omega) (by omega)).mpr hh)
        refine lv_aload_n hx hb dX11_meets_29 rfl (lv_at hl 0 rfl) ?_
        refine va_get (D := (dC, dI)) (ci := 10) (v := .ref (A (36 + 20 * 0))) (C := RX11) (T := TX11) (N := 19) hx hb hts ii_X11_meets_X11 hown hK hP 0 (xw_is (r := 0) (by omega) (xc_fix (r := 0) (by omega))) rfl 1 (by decide) (hts _ mm_X11_meets_1) (fun _ hh => hh) rfl dX11_meets_30 ?_
        refine lv_iload_n hx hb dX11_meets_33 rfl (lv_at hl 1 rfl) ?_
        refine lv_iload_n hx hb dX11_meets_34 rfl (lv_at hl 2 rfl) ?_
        refine va_calli (va_runV (As := [.int (nI n2), .int (nI n5)]) (rest := []) ⟨hx, hb, hml, hown, hts⟩ (x_X4_meetingHours l dC dI ad E hEE A C nb _ hN st sl so 0 n2 n5 (by omega) (by omega) (by omega) hG.1) (cwV 2 hts gX11_meets_X4_meetingHours rfl rfl rfl (by decide +kernel) ⟨Nat.le_of_ble_eq_true rfl, Nat.le_of_ble_eq_true rfl⟩) ⟨fun a U g mk q => ⟨q.1, xPre.blind hEE q.2⟩, va_recv hK hP (ci := 5) (q0 := (36 + 20 * 0)) rfl (xw_is (r := (36 + 20 * 0)) (by omega) (xc_pk (i := 0) (o := 0) (by omega) (by omega))), fun U hU hW => ⟨rfl, xPre.of hEE hP hK hE hS hU hW⟩⟩ rfl rfl hl.1 rfl (lv_room (Nat.le_of_ble_eq_true rfl)) dX11_meets_35 ⟨Nat.le_of_ble_eq_true rfl, Nat.le_of_ble_eq_true rfl⟩) hS (fun q _ h => XA.le hS.1 q h) (XA.le hS.1) (fun r7 x t H locs ht hvm hw hB _ _ hS => ?_)
        have hP := xB.at ht hB
        clear hB ht hvm
        obtain ⟨rfl, hw⟩ := hw
        have hP : va_P (dC, dI) vwCl (xw A C nb st sl so) _ := hP
        clear hw
        exact W.iret (v := r7) hx hb hr (fun t ht hW => ⟨⟨r7, (st, sl, so), rfl, ⟨hG, hL, rfl, trivial⟩, xB.of ht hP⟩, hS.F ht⟩) hS.2.2 dX11_meets_38
      · have c3 : n2 = n5 := (nI_eq (a := n2) (b := n5) (by omega) (by omega)).mp c3
        refine lv_iconst (v := (-1)) hx hb dX11_meets_27 (by decide) ?_
        exact W.iret (v := (-1)) hx hb hr (fun t ht hW => ⟨⟨(-1), (st, sl, so), rfl, ⟨hG, hL, rfl, trivial⟩, xB.of ht hP⟩, hS.F ht⟩) hS.2.2 dX11_meets_28
    · refine lv_if_eq (tgt := 27) hx hb dX11_meets_19 (by decide) (fun _ => ?_) (fun cc => absurd (by decide) cc)
      refine lv_iconst (v := (-1)) hx hb dX11_meets_27 (by decide) ?_
      exact W.iret (v := (-1)) hx hb hr (fun t ht hW => ⟨⟨(-1), (st, sl, so), rfl, ⟨hG, hL, rfl, trivial⟩, xB.of ht hP⟩, hS.F ht⟩) hS.2.2 dX11_meets_28
  · refine lv_if_eq (tgt := 27) hx hb dX11_meets_8 (by decide) (fun _ => ?_) (fun cc => absurd (by decide) cc)
    refine lv_iconst (v := (-1)) hx hb dX11_meets_27 (by decide) ?_
    exact W.iret (v := (-1)) hx hb hr (fun t ht hW => ⟨⟨(-1), (st, sl, so), rfl, ⟨hG, hL, rfl, trivial⟩, xB.of ht hP⟩, hS.F ht⟩) hS.2.2 dX11_meets_28
set_option maxHeartbeats 4000000 in
set_option maxRecDepth 100000 in
theorem x_X11_best (l : Launch) (dC : Nat → ClassId) (dI : Nat → Nat → Nat) (ad : Nat → Nat) (E : EP) (hEE : EC ad E) (A : Nat → Nat) (C : Nat → ClassId) (nb sz : Nat) (hN : XN A) (st : Nat → Nat → Int32) (sl : Nat → Nat → Int64) (so : Nat → XR) (va : Int32) (vb : Int32) (hI : XI st) : Met l yX11_best wsX11_best ({ frames := 5, cells := 0, slots := 0, locals := 110 }) (va_Pc [.ref (A 0), .int va, .int vb] (xPre E dC dI A C nb sz st sl so)) (va_Qi (fun (r : Int32) (x : XT) => XG [1, 2, 4, 5, 13, 15, 7, 12, 14] st x.1 ∧ LGq sl x.2.1 ∧ x.2.2 = so ∧ (True)) (xB dC dI A C nb) (XA A sz)) 0 0 (XA A sz) := by
  refine Met.ofW (cc := cX11_best) (maxL := 9) (ret := (some .int)) (by decide) rfl ?_
  intro p e s m args below meth c s₁ B hml hv
  obtain ⟨rfl, hsz, hP, hK, hE⟩ := hv
  have hx := B.exec
  have hb := B.bytes
  have hr := B.returns
  have hts := atoms_spec (ws := wsX11_best) B.pre
  have hown : s.vm.findClass RX11 = some m.cls := findClass_of_methodNamed B.named
  subst hsz
  have hEv := hEE.1 _ _ _ hE
  have hS : va_S (XA A s.heap.size) s.heap s.heap [] := va_S.rf
  have hG : XG [1, 2, 4, 5, 13, 15, 7, 12, 14] st st := XG.rf hI
  have hl := lv_entry ([.ref (A 0), .int va, .int vb]) (n := 9) (Nat.le_of_ble_eq_true rfl)
  rw [lg_entry_eq]
  generalize (lg_sl ([.ref (A 0), .int va, .int vb]) ++ List.replicate (9 - (lg_sl ([.ref (A 0), .int va, .int vb])).length) Slot.unset).toArray = ls at hl ⊢
  have hl : lv_has ls 9 [(0, .ref (A 0)), (1, .int va), (2, .int vb)] := hl
  have hL : LGq sl sl := LGq.rf
  refine lv_aload_n hx hb dX11_best_0 rfl (lv_at hl 0 rfl) ?_
  refine va_get (D := (dC, dI)) (ci := 10) (v := .ref (A (36 + 20 * 0))) (C := RX11) (T := TX11) (N := 19) hx hb hts ii_X11_best_X11 hown hK hP 0 (xw_is (r := 0) (by omega) (xc_fix (r := 0) (by omega))) rfl 1 (by decide) (hts _ mm_X11_best_1) (fun _ hh => hh) rfl dX11_best_1 ?_
  refine lv_iload_n hx hb dX11_best_4 rfl (lv_at hl 1 rfl) ?_
  refine va_calli (va_runV (As := [.int va]) (rest := []) ⟨hx, hb, hml, hown, hts⟩ (x_X4_hasPlace l dC dI ad E hEE A C nb _ hN st sl so 0 va (by omega) hG.1) (cwV 1 hts gX11_best_X4_hasPlace rfl rfl rfl (by decide +kernel) ⟨Nat.le_of_ble_eq_true rfl, Nat.le_of_ble_eq_true rfl⟩) ⟨fun a U g mk q => ⟨q.1, xPre.blind hEE q.2⟩, va_recv hK hP (ci := 5) (q0 := (36 + 20 * 0)) rfl (xw_is (r := (36 + 20 * 0)) (by omega) (xc_pk (i := 0) (o := 0) (by omega) (by omega))), fun U hU hW => ⟨rfl, xPre.of hEE hP hK hE hS hU hW⟩⟩ rfl rfl hl.1 rfl (lv_room (Nat.le_of_ble_eq_true rfl)) dX11_best_5 ⟨Nat.le_of_ble_eq_true rfl, Nat.le_of_ble_eq_true rfl⟩) hS (fun q _ h => XA.le hS.1 q h) (XA.le hS.1) (fun r1 x t H locs ht hvm hw hB _ _ hS => ?_)
  have hP := xB.at ht hB
  clear hB ht hvm
  obtain ⟨rfl, hw⟩ := hw
  have hP : va_P (dC, dI) vwCl (xw A C nb st sl so) _ := hP
  rcases hw with ⟨n2, rfl, hf3, rfl⟩ | rfl
  · refine lv_if_eq (tgt := 20) hx hb dX11_best_8 (by decide) (fun cc => absurd cc (by decide)) (fun _ => ?_)
    refine lv_iload_n hx hb dX11_best_11 rfl (lv_at hl 2 rfl) ?_
    refine lv_if_lt (tgt := 20) hx hb dX11_best_12 (by decide) (fun c2 => ?_) (fun c2 => ?_)
    · refine lv_iconst (v := (-1)) hx hb dX11_best_20 (by decide) ?_
      exact W.iret (v := (-1)) hx hb hr (fun t ht hW => ⟨⟨(-1), (st, sl, so), rfl, ⟨hG, hL, rfl, trivial⟩, xB.of ht hP⟩, hS.F ht⟩) hS.2.2 dX11_best_21
    · refine lv_iload_n hx hb dX11_best_15 rfl (lv_at hl 2 rfl) ?_
      refine lv_iconst (v := 1) hx hb dX11_best_16 (by decide) ?_
      refine lv_icmp_le (tgt := 22) hx hb dX11_best_17 (by decide) (fun c3 => ?_) (fun c3 => ?_)
      · refine lv_iload_n hx hb dX11_best_22 rfl (lv_at hl 2 rfl) ?_
        refine lv_iconst (v := 1) hx hb dX11_best_23 (by decide) ?_
        refine lv_icmp_ne (tgt := 31) hx hb dX11_best_24 (by decide) (fun c4 => ?_) (fun c4 => ?_)
        · refine lv_iconst (v := 0) hx hb dX11_best_31 (by decide) ?_
          refine lv_istore_n (lv' := [(3, .int 0), (0, .ref (A 0)), (1, .int (nI n2)), (2, .int vb)]) hx hb dX11_best_32 rfl hl (by decide) rfl (fun ls hl => ?_)
          refine lv_aload_n hx hb dX11_best_33 rfl (lv_at hl 1 rfl) ?_
          refine va_get (D := (dC, dI)) (ci := 10) (v := .ref (A (36 + 20 * 0))) (C := RX11) (T := TX11) (N := 19) hx hb hts ii_X11_best_X11 hown hK hP 0 (xw_is (r := 0) (by omega) (xc_fix (r := 0) (by omega))) rfl 1 (by decide) (hts _ mm_X11_best_1) (fun _ hh => hh) rfl dX11_best_34 ?_
          refine lv_iload_n hx hb dX11_best_37 rfl (lv_at hl 0 rfl) ?_
          refine va_calli (va_runV (As := [.int 0]) (rest := []) ⟨hx, hb, hml, hown, hts⟩ (x_X4_goodOfAll l dC dI ad E hEE A C nb _ hN st sl so 0 0 (by omega) hG.1) (cwV 1 hts gX11_best_X4_goodOfAll rfl rfl rfl (by decide +kernel) ⟨Nat.le_of_ble_eq_true rfl, Nat.le_of_ble_eq_true rfl⟩) ⟨fun a U g mk q => ⟨q.1, xPre.blind hEE q.2⟩, va_recv hK hP (ci := 5) (q0 := (36 + 20 * 0)) rfl (xw_is (r := (36 + 20 * 0)) (by omega) (xc_pk (i := 0) (o := 0) (by omega) (by omega))), fun U hU hW => ⟨rfl, xPre.of hEE hP hK hE hS hU hW⟩⟩ rfl rfl hl.1 rfl (lv_room (Nat.le_of_ble_eq_true rfl)) dX11_best_38 ⟨Nat.le_of_ble_eq_true rfl, Nat.le_of_ble_eq_true rfl⟩) hS (fun q _ h => XA.le hS.1 q h) (XA.le hS.1) (fun r4 x t H locs ht hvm hw hB _ _ hS => ?_)
          have hP := xB.at ht hB
          clear hB ht hvm
          obtain ⟨rfl, hw⟩ := hw
          have hP : va_P (dC, dI) vwCl (xw A C nb st sl so) _ := hP
          clear hw
          refine lv_aload_n hx hb dX11_best_41 rfl (lv_at hl 1 rfl) ?_
          refine va_get (D := (dC, dI)) (ci := 10) (v := .ref (A (36 + 20 * 0))) (C := RX11) (T := TX11) (N := 19) hx hb hts ii_X11_best_X11 hown hK hP 0 (xw_is (r := 0) (by omega) (xc_fix (r := 0) (by omega))) rfl 1 (by decide) (hts _ mm_X11_best_1) (fun _ hh => hh) rfl dX11_best_42 ?_
          refine lv_iload_n hx hb dX11_best_45 rfl (lv_at hl 2 rfl) ?_
          refine lv_iload_n hx hb dX11_best_46 rfl (lv_at hl 0 rfl) ?_
          refine lv_aload_n hx hb dX11_best_47 rfl (lv_at hl 1 rfl) ?_
          refine va_get (D := (dC, dI)) (ci := 10) (v := .ref (A (36 + 20 * 0))) (C := RX11) (T := TX11) (N := 19) hx hb hts ii_X11_best_X11 hown hK hP 0 (xw_is (r := 0) (by omega) (xc_fix (r := 0) (by omega))) rfl 1 (by decide) (hts _ mm_X11_best_1) (fun _ hh => hh) rfl dX11_best_48 ?_
          refine va_getN (host := "OffTheLead") (D := (dC, dI)) (ci := 5) (v := .ref (A (36 + 20 * 0 + 2))) (C := RX4) (T := TX4) (N := 12) hx hb hts ii_X11_best_X4 hown hK hP (36 + 20 * 0) (xw_is (r := (36 + 20 * 0)) (by omega) (xc_pk (i := 0) (o := 0) (by omega) (by omega))) rfl 1 (by decide) (va_Nw.use rfl (nf_X11_202 hEv)) (fun _ hh => hh) rfl dX11_best_51 ?_
          refine lv_iload_n hx hb dX11_best_54 rfl (lv_at hl 2 rfl) ?_
          refine va_iald hx hb hK hP (36 + 20 * 0 + 2) (36 + 20 * 0 + 2) (xw_is (r := (36 + 20 * 0 + 2)) (by omega) (xc_pk (i := 0) (o := 2) (by omega) (by omega))) (xt_is (r := (36 + 20 * 0 + 2)) (by omega) ((xty_pk (i := 0) (o := 2) (by omega)).trans rfl)) (i := (nI n2)) (vp_in_nI (by omega) (by decide)) dX11_best_55 ?_
          obtain ⟨z5, ez5⟩ : ∃ y : Int32, st (36 + 20 * 0 + 2) n2 = y := ⟨_, rfl⟩
          refine zz_top (v := z5) (by rw [nI_clamp (by omega)]; exact ez5) ?_
          refine va_calli (va_runS (As := [.ref (A (36 + 20 * 0)), .int (nI n2), .int 0, .int z5]) (rest := [.int r4]) ⟨hx, hb, hml, hown, hts⟩ (x_X9_goodHere l dC dI ad E hEE A C nb _ hN st sl so 0 n2 0 z5 (by omega) (by omega) hG.1) (va_cwS 4 hts gX11_best_X9_goodHere rfl rfl rfl (by decide +kernel) ⟨Nat.le_of_ble_eq_true rfl, Nat.le_of_ble_eq_true rfl⟩) ⟨fun a U g mk q => ⟨q.1, xPre.blind hEE q.2⟩, fun U hU hW => ⟨rfl, xPre.of hEE hP hK hE hS hU hW⟩⟩ rfl rfl hl.1 rfl (lv_room (Nat.le_of_ble_eq_true rfl)) dX11_best_56 ⟨Nat.le_of_ble_eq_true rfl, Nat.le_of_ble_eq_true rfl⟩) hS (fun q _ h => XA.le hS.1 q h) (XA.le hS.1) (fun r6 x t H locs ht hvm hw hB _ _ hS => ?_)
          have hP := xB.at ht hB
          clear hB ht hvm
          obtain ⟨rfl, hw⟩ := hw
          have hP : va_P (dC, dI) vwCl (xw A C nb st sl so) _ := hP
          clear hw
          refine lv_isub hx hb dX11_best_59 ?_
          refine lv_topi (fun z7 ez7 => ?_)
          clear ez7
          refine lv_istore (lv' := [(4, .int z7), (3, .int 0), (0, .ref (A 0)), (1, .int (nI n2)), (2, .int vb)]) hx hb dX11_best_60 hl (by decide) rfl (fun ls hl => ?_)
          refine lv_aload_n hx hb dX11_best_62 rfl (lv_at hl 2 rfl) ?_
          refine va_get (D := (dC, dI)) (ci := 10) (v := .ref (A (36 + 20 * 0))) (C := RX11) (T := TX11) (N := 19) hx hb hts ii_X11_best_X11 hown hK hP 0 (xw_is (r := 0) (by omega) (xc_fix (r := 0) (by omega))) rfl 1 (by decide) (hts _ mm_X11_best_1) (fun _ hh => hh) rfl dX11_best_63 ?_
          refine lv_iload_n hx hb dX11_best_66 rfl (lv_at hl 3 rfl) ?_
          refine lv_iload_n hx hb dX11_best_67 rfl (lv_at hl 1 rfl) ?_
          refine lv_iconst (v := 0) hx hb dX11_best_68 (by decide) ?_
          refine va_calli (va_runS (As := [.ref (A (36 + 20 * 0)), .int (nI n2), .int 0, .int 0]) (rest := []) ⟨hx, hb, hml, hown, hts⟩ (x_X9_goodHere l dC dI ad E hEE A C nb _ hN st sl so 0 n2 0 0 (by omega) (by omega) hG.1) (va_cwS 4 hts gX11_best_X9_goodHere rfl rfl rfl (by decide +kernel) ⟨Nat.le_of_ble_eq_true rfl, Nat.le_of_ble_eq_true rfl⟩) ⟨fun a U g mk q => ⟨q.1, xPre.blind hEE q.2⟩, fun U hU hW => ⟨rfl, xPre.of hEE hP hK hE hS hU hW⟩⟩ rfl rfl hl.1 rfl (lv_room (Nat.le_of_ble_eq_true rfl)) dX11_best_69 ⟨Nat.le_of_ble_eq_true rfl, Nat.le_of_ble_eq_true rfl⟩) hS (fun q _ h => XA.le hS.1 q h) (XA.le hS.1) (fun r8 x t H locs ht hvm hw hB _ _ hS => ?_)
          have hP := xB.at ht hB
          clear hB ht hvm
          obtain ⟨rfl, hw⟩ := hw
          have hP : va_P (dC, dI) vwCl (xw A C nb st sl so) _ := hP
          clear hw
          refine lv_istore (lv' := [(5, .int r8), (4, .int z7), (3, .int 0), (0, .ref (A 0)), (1, .int (nI n2)), (2, .int vb)]) hx hb dX11_best_72 hl (by decide) rfl (fun ls hl => ?_)
          refine lv_aload_n hx hb dX11_best_74 rfl (lv_at hl 3 rfl) ?_
          refine lv_iconst (v := (-1)) hx hb dX11_best_75 (by decide) ?_
          refine va_put (D := (dC, dI)) (ci := 10) (v := .int (-1)) (ty := .int) (C := RX11) (T := TX11) (N := 19) hx hb hts ii_X11_best_X11 tyX11 tyX11_ok nmX11 hown hK hP (xD hN _ _ _ _ _ _) hS 0 (xw_is (r := 0) (by omega) (xc_fix (r := 0) (by omega))) rfl 17 (by decide) (hts _ mm_X11_best_2) (fun _ hh => hh) rfl (by decide +kernel) rfl rfl (Nat.le_of_ble_eq_true rfl) dX11_best_76 (fun H locs hP _ hS => ?_)
          have hP : va_P (dC, dI) vwCl (xw A C nb (up2 st 0 17 (-1)) sl so) H := by rw [← xset (r := 0) (k := 17) (v := (-1)) (xc_fix (r := 0) (by omega))]; exact hP
          obtain ⟨st9, est9⟩ : ∃ y, y = up2 st 0 17 (-1) := ⟨_, rfl⟩
          have hG : XG [1, 2, 4, 5, 13, 15, 7, 12, 14] st st9 := by rw [est9]; exact hG.up (xz (r := 0) (k := 17) (by decide : xrg 0 17 = 0)) (xpn (c := 0) (by decide : xcl 0 17 = 0) (by decide))
          rw [← est9] at hP
          refine lv_aload_n hx hb dX11_best_79 rfl (lv_at hl 3 rfl) ?_
          refine lv_iconst (v := (-1)) hx hb dX11_best_80 (by decide) ?_
          refine va_put (D := (dC, dI)) (ci := 10) (v := .int (-1)) (ty := .int) (C := RX11) (T := TX11) (N := 19) hx hb hts ii_X11_best_X11 tyX11 tyX11_ok nmX11 hown hK hP (xD hN _ _ _ _ _ _) hS 0 (xw_is (r := 0) (by omega) (xc_fix (r := 0) (by omega))) rfl 18 (by decide) (hts _ mm_X11_best_3) (fun _ hh => hh) rfl (by decide +kernel) rfl rfl (Nat.le_of_ble_eq_true rfl) dX11_best_81 (fun H locs hP _ hS => ?_)
          have hP : va_P (dC, dI) vwCl (xw A C nb (up2 st9 0 18 (-1)) sl so) H := by rw [← xset (r := 0) (k := 18) (v := (-1)) (xc_fix (r := 0) (by omega))]; exact hP
          obtain ⟨st10, est10⟩ : ∃ y, y = up2 st9 0 18 (-1) := ⟨_, rfl⟩
          have hG : XG [1, 2, 4, 5, 13, 15, 7, 12, 14] st st10 := by rw [est10]; exact hG.up (xz (r := 0) (k := 18) (by decide : xrg 0 18 = 0)) (xpn (c := 0) (by decide : xcl 0 18 = 0) (by decide))
          rw [← est10] at hP
          refine lv_iconst (v := 0) hx hb dX11_best_84 (by decide) ?_
          refine lv_istore (lv' := [(6, .int 0), (5, .int r8), (4, .int z7), (3, .int 0), (0, .ref (A 0)), (1, .int (nI n2)), (2, .int vb)]) hx hb dX11_best_85 hl (by decide) rfl (fun ls hl => ?_)
          refine zz_wf (fun n stk H locs ls => ∃ k11 : Nat, ∃ z12 : Int32, ∃ st13 : Nat → Nat → Int32, ∃ sl14 : Nat → Nat → Int64, n = 25 - k11 ∧ 0 ≤ k11 ∧ k11 < 25 ∧ va_P (dC, dI) vwCl (xw A C nb st13 sl14 so) H ∧ XG [1, 2, 4, 5, 13, 15, 7, 12, 14] st st13 ∧ LGq sl sl14 ∧ va_S (XA A s.heap.size) s.heap H locs ∧ lv_has ls 9 [(6, .int (nI k11)), (5, .int z12), (4, .int z7), (3, .int 0), (0, .ref (A 0)), (1, .int (nI n2)), (2, .int vb)] ∧ stk = []) ?_ (25 - 0) _ _ _ _ ⟨0, r8, st10, sl, rfl, by omega, by omega, hP, hG, hL, hS, lv_sub hl [0, 1, 2, 3, 4, 5, 6] rfl, rfl⟩
          rintro nn stk H locs ls ⟨k11, z12, st13, sl14, hm16, hv15_0, hv16_1, hP, hG, hL, hS, hl, rfl⟩ ih17
          refine lv_iload hx hb dX11_best_87 (lv_at hl 0 rfl) ?_
          refine lv_bipush (v := 24) hx hb dX11_best_89 (by decide) ?_
          refine lv_icmp_ge (tgt := 158) hx hb dX11_best_91 (by decide) (fun c5 => ?_) (fun c5 => ?_)
          · have c5 : 24 ≤ k11 := (nI_leI (a := 24) (b := k11) (by omega) (by omega)).mp c5
            refine lv_iload hx hb dX11_best_158 (lv_at hl 2 rfl) ?_
            refine lv_iload hx hb dX11_best_160 (lv_at hl 1 rfl) ?_
            refine lv_iadd hx hb dX11_best_162 ?_
            refine lv_topi (fun z18 ez18 => ?_)
            clear ez18
            exact W.iret (v := z18) hx hb hr (fun t ht hW => ⟨⟨z18, (st13, sl14, so), rfl, ⟨hG, hL, rfl, trivial⟩, xB.of ht hP⟩, hS.F ht⟩) hS.2.2 dX11_best_163
          · have c5 : ¬ 24 ≤ k11 := fun hh => c5 ((nI_leI (a := 24) (b := k11) (by omega) (by omega)).mpr hh)
            refine lv_iload hx hb dX11_best_94 (lv_at hl 0 rfl) ?_
            refine lv_istore (lv' := [(7, .int (nI k11)), (6, .int (nI k11)), (5, .int z12), (4, .int z7), (3, .int 0), (0, .ref (A 0)), (1, .int (nI n2)), (2, .int vb)]) hx hb dX11_best_96 hl (by decide) rfl (fun ls hl => ?_)
            refine zz_wf (fun n stk H locs ls => ∃ k19 : Nat, ∃ z20 : Int32, ∃ st21 : Nat → Nat → Int32, ∃ sl22 : Nat → Nat → Int64, n = 25 - k19 ∧ 0 ≤ k19 ∧ k19 < 25 ∧ va_P (dC, dI) vwCl (xw A C nb st21 sl22 so) H ∧ XG [1, 2, 4, 5, 13, 15, 7, 12, 14] st st21 ∧ LGq sl sl22 ∧ va_S (XA A s.heap.size) s.heap H locs ∧ lv_has ls 9 [(7, .int (nI k19)), (6, .int (nI k11)), (5, .int z20), (4, .int z7), (3, .int 0), (0, .ref (A 0)), (1, .int (nI n2)), (2, .int vb)] ∧ stk = []) ?_ (25 - k11) _ _ _ _ ⟨k11, z12, st13, sl14, rfl, by omega, by omega, hP, hG, hL, hS, lv_sub hl [0, 1, 2, 3, 4, 5, 6, 7] rfl, rfl⟩
            rintro nn stk H locs ls ⟨k19, z20, st21, sl22, hm24, hv23_0, hv24_1, hP, hG, hL, hS, hl, rfl⟩ ih25
            refine lv_iload hx hb dX11_best_98 (lv_at hl 0 rfl) ?_
            refine lv_bipush (v := 24) hx hb dX11_best_100 (by decide) ?_
            refine lv_icmp_ge (tgt := 152) hx hb dX11_best_102 (by decide) (fun c6 => ?_) (fun c6 => ?_)
            · have c6 : 24 ≤ k19 := (nI_leI (a := 24) (b := k19) (by omega) (by omega)).mp c6
              refine lv_iinc (v := (nI (k11 + 1))) (lv' := [(6, .int (nI (k11 + 1))), (7, .int (nI k19)), (5, .int z20), (4, .int z7), (3, .int 0), (0, .ref (A 0)), (1, .int (nI n2)), (2, .int vb)]) hx hb dX11_best_152 hl (k := 1) rfl (nI_add k11 1) (by decide) rfl (fun ls hl => ?_)
              refine lv_goto (tgt := 87) hx hb dX11_best_155 (by decide) ?_
              exact ih17 (25 - (k11 + 1)) _ _ _ _ (by omega) ⟨(k11 + 1), z20, st21, sl22, rfl, by omega, by omega, hP, hG, hL, hS, lv_sub hl [0, 2, 3, 4, 5, 6, 7] rfl, rfl⟩
            · have c6 : ¬ 24 ≤ k19 := fun hh => c6 ((nI_leI (a := 24) (b := k19) (by omega) (by omega)).mpr hh)
              refine lv_aload_n hx hb dX11_best_105 rfl (lv_at hl 5 rfl) ?_
              refine va_get (D := (dC, dI)) (ci := 10) (v := .ref (A (36 + 20 * 0))) (C := RX11) (T := TX11) (N := 19) hx hb hts ii_X11_best_X11 hown hK hP 0 (xw_is (r := 0) (by omega) (xc_fix (r := 0) (by omega))) rfl 1 (by decide) (hts _ mm_X11_best_1) (fun _ hh => hh) rfl dX11_best_106 ?_
              refine lv_iload_n hx hb dX11_best_109 rfl (lv_at hl 6 rfl) ?_
              refine lv_iload_n hx hb dX11_best_110 rfl (lv_at hl 4 rfl) ?_
              refine lv_iload hx hb dX11_best_111 (lv_at hl 1 rfl) ?_
              refine lv_iload hx hb dX11_best_113 (lv_at hl 0 rfl) ?_
              refine va_calli (va_runS (As := [.int (nI k11), .int (nI k19)]) (rest := [.int 0, .int (nI n2), .ref (A (36 + 20 * 0))]) ⟨hx, hb, hml, hown, hts⟩ (x_X11_hoursOf l dC dI ad E hEE A C nb _ hN st21 sl22 so (nI k11) (nI k19)  hG.1) (va_cwS 2 hts gX11_best_X11_hoursOf rfl rfl rfl (by decide +kernel) ⟨Nat.le_of_ble_eq_true rfl, Nat.le_of_ble_eq_true rfl⟩) ⟨fun a U g mk q => ⟨q.1, xPre.blind hEE q.2⟩, fun U hU hW => ⟨rfl, xPre.of hEE hP hK hE hS hU hW⟩⟩ rfl rfl hl.1 rfl (lv_room (Nat.le_of_ble_eq_true rfl)) dX11_best_115 ⟨Nat.le_of_ble_eq_true rfl, Nat.le_of_ble_eq_true rfl⟩) hS (fun q _ h => XA.le hS.1 q h) (XA.le hS.1) (fun r26 x t H locs ht hvm hw hB _ _ hS => ?_)
              have hP := xB.at ht hB
              clear hB ht hvm
              obtain ⟨rfl, hw⟩ := hw
              have hP : va_P (dC, dI) vwCl (xw A C nb st21 sl22 so) _ := hP
              clear hw
              refine va_calli (va_runS (As := [.ref (A (36 + 20 * 0)), .int (nI n2), .int 0, .int r26]) (rest := []) ⟨hx, hb, hml, hown, hts⟩ (x_X9_goodHere l dC dI ad E hEE A C nb _ hN st21 sl22 so 0 n2 0 r26 (by omega) (by omega) hG.1) (va_cwS 4 hts gX11_best_X9_goodHere rfl rfl rfl (by decide +kernel) ⟨Nat.le_of_ble_eq_true rfl, Nat.le_of_ble_eq_true rfl⟩) ⟨fun a U g mk q => ⟨q.1, xPre.blind hEE q.2⟩, fun U hU hW => ⟨rfl, xPre.of hEE hP hK hE hS hU hW⟩⟩ rfl rfl hl.1 rfl (lv_room (Nat.le_of_ble_eq_true rfl)) dX11_best_118 ⟨Nat.le_of_ble_eq_true rfl, Nat.le_of_ble_eq_true rfl⟩) hS (fun q _ h => XA.le hS.1 q h) (XA.le hS.1) (fun r27 x t H locs ht hvm hw hB _ _ hS => ?_)
              have hP := xB.at ht hB
              clear hB ht hvm
              obtain ⟨rfl, hw⟩ := hw
              have hP : va_P (dC, dI) vwCl (xw A C nb st21 sl22 so) _ := hP
              clear hw
              refine lv_istore (lv' := [(8, .int r27), (7, .int (nI k19)), (6, .int (nI k11)), (5, .int z20), (4, .int z7), (3, .int 0), (0, .ref (A 0)), (1, .int (nI n2)), (2, .int vb)]) hx hb dX11_best_121 hl (by decide) rfl (fun ls hl => ?_)
              refine lv_iload hx hb dX11_best_123 (lv_at hl 0 rfl) ?_
              refine lv_iload hx hb dX11_best_125 (lv_at hl 3 rfl) ?_
              refine lv_icmp_le (tgt := 146) hx hb dX11_best_127 (by decide) (fun c7 => ?_) (fun c7 => ?_)
              · refine lv_iinc (v := (nI (k19 + 1))) (lv' := [(7, .int (nI (k19 + 1))), (8, .int r27), (6, .int (nI k11)), (5, .int z20), (4, .int z7), (3, .int 0), (0, .ref (A 0)), (1, .int (nI n2)), (2, .int vb)]) hx hb dX11_best_146 hl (k := 1) rfl (nI_add k19 1) (by decide) rfl (fun ls hl => ?_)
                refine lv_goto (tgt := 98) hx hb dX11_best_149 (by decide) ?_
                exact ih25 (25 - (k19 + 1)) _ _ _ _ (by omega) ⟨(k19 + 1), z20, st21, sl22, rfl, by omega, by omega, hP, hG, hL, hS, lv_sub hl [0, 2, 3, 4, 5, 6, 7, 8] rfl, rfl⟩
              · refine lv_iload hx hb dX11_best_130 (lv_at hl 0 rfl) ?_
                refine lv_istore (lv' := [(5, .int r27), (8, .int r27), (7, .int (nI k19)), (6, .int (nI k11)), (4, .int z7), (3, .int 0), (0, .ref (A 0)), (1, .int (nI n2)), (2, .int vb)]) hx hb dX11_best_132 hl (by decide) rfl (fun ls hl => ?_)
                refine lv_aload_n hx hb dX11_best_134 rfl (lv_at hl 6 rfl) ?_
                refine lv_iload hx hb dX11_best_135 (lv_at hl 3 rfl) ?_
                refine va_put (D := (dC, dI)) (ci := 10) (v := .int (nI k11)) (ty := .int) (C := RX11) (T := TX11) (N := 19) hx hb hts ii_X11_best_X11 tyX11 tyX11_ok nmX11 hown hK hP (xD hN _ _ _ _ _ _) hS 0 (xw_is (r := 0) (by omega) (xc_fix (r := 0) (by omega))) rfl 17 (by decide) (hts _ mm_X11_best_2) (fun _ hh => hh) rfl (by decide +kernel) rfl rfl (Nat.le_of_ble_eq_true rfl) dX11_best_137 (fun H locs hP _ hS => ?_)
                have hP : va_P (dC, dI) vwCl (xw A C nb (up2 st21 0 17 (nI k11)) sl22 so) H := by rw [← xset (r := 0) (k := 17) (v := (nI k11)) (xc_fix (r := 0) (by omega))]; exact hP
                obtain ⟨st28, est28⟩ : ∃ y, y = up2 st21 0 17 (nI k11) := ⟨_, rfl⟩
                have hG : XG [1, 2, 4, 5, 13, 15, 7, 12, 14] st st28 := by rw [est28]; exact hG.up (xz (r := 0) (k := 17) (by decide : xrg 0 17 = 0)) (xpn (c := 0) (by decide : xcl 0 17 = 0) (by decide))
                rw [← est28] at hP
                refine lv_aload_n hx hb dX11_best_140 rfl (lv_at hl 6 rfl) ?_
                refine lv_iload hx hb dX11_best_141 (lv_at hl 2 rfl) ?_
                refine va_put (D := (dC, dI)) (ci := 10) (v := .int (nI k19)) (ty := .int) (C := RX11) (T := TX11) (N := 19) hx hb hts ii_X11_best_X11 tyX11 tyX11_ok nmX11 hown hK hP (xD hN _ _ _ _ _ _) hS 0 (xw_is (r := 0) (by omega) (xc_fix (r := 0) (by omega))) rfl 18 (by decide) (hts _ mm_X11_best_3) (fun _ hh => hh) rfl (by decide +kernel) rfl rfl (Nat.le_of_ble_eq_true rfl) dX11_best_143 (fun H locs hP _ hS => ?_)
                have hP : va_P (dC, dI) vwCl (xw A C nb (up2 st28 0 18 (nI k19)) sl22 so) H := by rw [← xset (r := 0) (k := 18) (v := (nI k19)) (xc_fix (r := 0) (by omega))]; exact hP
                obtain ⟨st29, est29⟩ : ∃ y, y = up2 st28 0 18 (nI k19) := ⟨_, rfl⟩
                have hG : XG [1, 2, 4, 5, 13, 15, 7, 12, 14] st st29 := by rw [est29]; exact hG.up (xz (r := 0) (k := 18) (by decide : xrg 0 18 = 0)) (xpn (c := 0) (by decide : xcl 0 18 = 0) (by decide))
                rw [← est29] at hP
                refine lv_iinc (v := (nI (k19 + 1))) (lv' := [(7, .int (nI (k19 + 1))), (5, .int r27), (8, .int r27), (6, .int (nI k11)), (4, .int z7), (3, .int 0), (0, .ref (A 0)), (1, .int (nI n2)), (2, .int vb)]) hx hb dX11_best_146 hl (k := 2) rfl (nI_add k19 1) (by decide) rfl (fun ls hl => ?_)
                refine lv_goto (tgt := 98) hx hb dX11_best_149 (by decide) ?_
                exact ih25 (25 - (k19 + 1)) _ _ _ _ (by omega) ⟨(k19 + 1), r27, st29, sl22, rfl, by omega, by omega, hP, hG, hL, hS, lv_sub hl [0, 3, 1, 4, 5, 6, 7, 8] rfl, rfl⟩
        · refine lv_iconst (v := 1) hx hb dX11_best_27 (by decide) ?_
          refine lv_goto (tgt := 32) hx hb dX11_best_28 (by decide) ?_
          refine lv_istore_n (lv' := [(3, .int 1), (0, .ref (A 0)), (1, .int (nI n2)), (2, .int vb)]) hx hb dX11_best_32 rfl hl (by decide) rfl (fun ls hl => ?_)
          refine lv_aload_n hx hb dX11_best_33 rfl (lv_at hl 1 rfl) ?_
          refine va_get (D := (dC, dI)) (ci := 10) (v := .ref (A (36 + 20 * 0))) (C := RX11) (T := TX11) (N := 19) hx hb hts ii_X11_best_X11 hown hK hP 0 (xw_is (r := 0) (by omega) (xc_fix (r := 0) (by omega))) rfl 1 (by decide) (hts _ mm_X11_best_1) (fun _ hh => hh) rfl dX11_best_34 ?_
          refine lv_iload_n hx hb dX11_best_37 rfl (lv_at hl 0 rfl) ?_
          refine va_calli (va_runV (As := [.int 1]) (rest := []) ⟨hx, hb, hml, hown, hts⟩ (x_X4_goodOfAll l dC dI ad E hEE A C nb _ hN st sl so 0 1 (by omega) hG.1) (cwV 1 hts gX11_best_X4_goodOfAll rfl rfl rfl (by decide +kernel) ⟨Nat.le_of_ble_eq_true rfl, Nat.le_of_ble_eq_true rfl⟩) ⟨fun a U g mk q => ⟨q.1, xPre.blind hEE q.2⟩, va_recv hK hP (ci := 5) (q0 := (36 + 20 * 0)) rfl (xw_is (r := (36 + 20 * 0)) (by omega) (xc_pk (i := 0) (o := 0) (by omega) (by omega))), fun U hU hW => ⟨rfl, xPre.of hEE hP hK hE hS hU hW⟩⟩ rfl rfl hl.1 rfl (lv_room (Nat.le_of_ble_eq_true rfl)) dX11_best_38 ⟨Nat.le_of_ble_eq_true rfl, Nat.le_of_ble_eq_true rfl⟩) hS (fun q _ h => XA.le hS.1 q h) (XA.le hS.1) (fun r30 x t H locs ht hvm hw hB _ _ hS => ?_)
          have hP := xB.at ht hB
          clear hB ht hvm
          obtain ⟨rfl, hw⟩ := hw
          have hP : va_P (dC, dI) vwCl (xw A C nb st sl so) _ := hP
          clear hw
          refine lv_aload_n hx hb dX11_best_41 rfl (lv_at hl 1 rfl) ?_
          refine va_get (D := (dC, dI)) (ci := 10) (v := .ref (A (36 + 20 * 0))) (C := RX11) (T := TX11) (N := 19) hx hb hts ii_X11_best_X11 hown hK hP 0 (xw_is (r := 0) (by omega) (xc_fix (r := 0) (by omega))) rfl 1 (by decide) (hts _ mm_X11_best_1) (fun _ hh => hh) rfl dX11_best_42 ?_
          refine lv_iload_n hx hb dX11_best_45 rfl (lv_at hl 2 rfl) ?_
          refine lv_iload_n hx hb dX11_best_46 rfl (lv_at hl 0 rfl) ?_
          refine lv_aload_n hx hb dX11_best_47 rfl (lv_at hl 1 rfl) ?_
          refine va_get (D := (dC, dI)) (ci := 10) (v := .ref (A (36 + 20 * 0))) (C := RX11) (T := TX11) (N := 19) hx hb hts ii_X11_best_X11 hown hK hP 0 (xw_is (r := 0) (by omega) (xc_fix (r := 0) (by omega))) rfl 1 (by decide) (hts _ mm_X11_best_1) (fun _ hh => hh) rfl dX11_best_48 ?_
          refine va_getN (host := "OffTheLead") (D := (dC, dI)) (ci := 5) (v := .ref (A (36 + 20 * 0 + 2))) (C := RX4) (T := TX4) (N := 12) hx hb hts ii_X11_best_X4 hown hK hP (36 + 20 * 0) (xw_is (r := (36 + 20 * 0)) (by omega) (xc_pk (i := 0) (o := 0) (by omega) (by omega))) rfl 1 (by decide) (va_Nw.use rfl (nf_X11_202 hEv)) (fun _ hh => hh) rfl dX11_best_51 ?_
          refine lv_iload_n hx hb dX11_best_54 rfl (lv_at hl 2 rfl) ?_
          refine va_iald hx hb hK hP (36 + 20 * 0 + 2) (36 + 20 * 0 + 2) (xw_is (r := (36 + 20 * 0 + 2)) (by omega) (xc_pk (i := 0) (o := 2) (by omega) (by omega))) (xt_is (r := (36 + 20 * 0 + 2)) (by omega) ((xty_pk (i := 0) (o := 2) (by omega)).trans rfl)) (i := (nI n2)) (vp_in_nI (by omega) (by decide)) dX11_best_55 ?_
          obtain ⟨z31, ez31⟩ : ∃ y : Int32, st (36 + 20 * 0 + 2) n2 = y := ⟨_, rfl⟩
          refine zz_top (v := z31) (by rw [nI_clamp (by omega)]; exact ez31) ?_
          refine va_calli (va_runS (As := [.ref (A (36 + 20 * 0)), .int (nI n2), .int 1, .int z31]) (rest := [.int r30]) ⟨hx, hb, hml, hown, hts⟩ (x_X9_goodHere l dC dI ad E hEE A C nb _ hN st sl so 0 n2 1 z31 (by omega) (by omega) hG.1) (va_cwS 4 hts gX11_best_X9_goodHere rfl rfl rfl (by decide +kernel) ⟨Nat.le_of_ble_eq_true rfl, Nat.le_of_ble_eq_true rfl⟩) ⟨fun a U g mk q => ⟨q.1, xPre.blind hEE q.2⟩, fun U hU hW => ⟨rfl, xPre.of hEE hP hK hE hS hU hW⟩⟩ rfl rfl hl.1 rfl (lv_room (Nat.le_of_ble_eq_true rfl)) dX11_best_56 ⟨Nat.le_of_ble_eq_true rfl, Nat.le_of_ble_eq_true rfl⟩) hS (fun q _ h => XA.le hS.1 q h) (XA.le hS.1) (fun r32 x t H locs ht hvm hw hB _ _ hS => ?_)
          have hP := xB.at ht hB
          clear hB ht hvm
          obtain ⟨rfl, hw⟩ := hw
          have hP : va_P (dC, dI) vwCl (xw A C nb st sl so) _ := hP
          clear hw
          refine lv_isub hx hb dX11_best_59 ?_
          refine lv_topi (fun z33 ez33 => ?_)
          clear ez33
          refine lv_istore (lv' := [(4, .int z33), (3, .int 1), (0, .ref (A 0)), (1, .int (nI n2)), (2, .int vb)]) hx hb dX11_best_60 hl (by decide) rfl (fun ls hl => ?_)
          refine lv_aload_n hx hb dX11_best_62 rfl (lv_at hl 2 rfl) ?_
          refine va_get (D := (dC, dI)) (ci := 10) (v := .ref (A (36 + 20 * 0))) (C := RX11) (T := TX11) (N := 19) hx hb hts ii_X11_best_X11 hown hK hP 0 (xw_is (r := 0) (by omega) (xc_fix (r := 0) (by omega))) rfl 1 (by decide) (hts _ mm_X11_best_1) (fun _ hh => hh) rfl dX11_best_63 ?_
          refine lv_iload_n hx hb dX11_best_66 rfl (lv_at hl 3 rfl) ?_
          refine lv_iload_n hx hb dX11_best_67 rfl (lv_at hl 1 rfl) ?_
          refine lv_iconst (v := 0) hx hb dX11_best_68 (by decide) ?_
          refine va_calli (va_runS (As := [.ref (A (36 + 20 * 0)), .int (nI n2), .int 1, .int 0]) (rest := []) ⟨hx, hb, hml, hown, hts⟩ (x_X9_goodHere l dC dI ad E hEE A C nb _ hN st sl so 0 n2 1 0 (by omega) (by omega) hG.1) (va_cwS 4 hts gX11_best_X9_goodHere rfl rfl rfl (by decide +kernel) ⟨Nat.le_of_ble_eq_true rfl, Nat.le_of_ble_eq_true rfl⟩) ⟨fun a U g mk q => ⟨q.1, xPre.blind hEE q.2⟩, fun U hU hW => ⟨rfl, xPre.of hEE hP hK hE hS hU hW⟩⟩ rfl rfl hl.1 rfl (lv_room (Nat.le_of_ble_eq_true rfl)) dX11_best_69 ⟨Nat.le_of_ble_eq_true rfl, Nat.le_of_ble_eq_true rfl⟩) hS (fun q _ h => XA.le hS.1 q h) (XA.le hS.1) (fun r34 x t H locs ht hvm hw hB _ _ hS => ?_)
          have hP := xB.at ht hB
          clear hB ht hvm
          obtain ⟨rfl, hw⟩ := hw
          have hP : va_P (dC, dI) vwCl (xw A C nb st sl so) _ := hP
          clear hw
          refine lv_istore (lv' := [(5, .int r34), (4, .int z33), (3, .int 1), (0, .ref (A 0)), (1, .int (nI n2)), (2, .int vb)]) hx hb dX11_best_72 hl (by decide) rfl (fun ls hl => ?_)
          refine lv_aload_n hx hb dX11_best_74 rfl (lv_at hl 3 rfl) ?_
          refine lv_iconst (v := (-1)) hx hb dX11_best_75 (by decide) ?_
          refine va_put (D := (dC, dI)) (ci := 10) (v := .int (-1)) (ty := .int) (C := RX11) (T := TX11) (N := 19) hx hb hts ii_X11_best_X11 tyX11 tyX11_ok nmX11 hown hK hP (xD hN _ _ _ _ _ _) hS 0 (xw_is (r := 0) (by omega) (xc_fix (r := 0) (by omega))) rfl 17 (by decide) (hts _ mm_X11_best_2) (fun _ hh => hh) rfl (by decide +kernel) rfl rfl (Nat.le_of_ble_eq_true rfl) dX11_best_76 (fun H locs hP _ hS => ?_)
          have hP : va_P (dC, dI) vwCl (xw A C nb (up2 st 0 17 (-1)) sl so) H := by rw [← xset (r := 0) (k := 17) (v := (-1)) (xc_fix (r := 0) (by omega))]; exact hP
          obtain ⟨st35, est35⟩ : ∃ y, y = up2 st 0 17 (-1) := ⟨_, rfl⟩
          have hG : XG [1, 2, 4, 5, 13, 15, 7, 12, 14] st st35 := by rw [est35]; exact hG.up (xz (r := 0) (k := 17) (by decide : xrg 0 17 = 0)) (xpn (c := 0) (by decide : xcl 0 17 = 0) (by decide))
          rw [← est35] at hP
          refine lv_aload_n hx hb dX11_best_79 rfl (lv_at hl 3 rfl) ?_
          refine lv_iconst (v := (-1)) hx hb dX11_best_80 (by decide) ?_
          refine va_put (D := (dC, dI)) (ci := 10) (v := .int (-1)) (ty := .int) (C := RX11) (T := TX11) (N := 19) hx hb hts ii_X11_best_X11 tyX11 tyX11_ok nmX11 hown hK hP (xD hN _ _ _ _ _ _) hS 0 (xw_is (r := 0) (by omega) (xc_fix (r := 0) (by omega))) rfl 18 (by decide) (hts _ mm_X11_best_3) (fun _ hh => hh) rfl (by decide +kernel) rfl rfl (Nat.le_of_ble_eq_true rfl) dX11_best_81 (fun H locs hP _ hS => ?_)
          have hP : va_P (dC, dI) vwCl (xw A C nb (up2 st35 0 18 (-1)) sl so) H := by rw [← xset (r := 0) (k := 18) (v := (-1)) (xc_fix (r := 0) (by omega))]; exact hP
          obtain ⟨st36, est36⟩ : ∃ y, y = up2 st35 0 18 (-1) := ⟨_, rfl⟩
          have hG : XG [1, 2, 4, 5, 13, 15, 7, 12, 14] st st36 := by rw [est36]; exact hG.up (xz (r := 0) (k := 18) (by decide : xrg 0 18 = 0)) (xpn (c := 0) (by decide : xcl 0 18 = 0) (by decide))
          rw [← est36] at hP
          refine lv_iconst (v := 0) hx hb dX11_best_84 (by decide) ?_
          refine lv_istore (lv' := [(6, .int 0), (5, .int r34), (4, .int z33), (3, .int 1), (0, .ref (A 0)), (1, .int (nI n2)), (2, .int vb)]) hx hb dX11_best_85 hl (by decide) rfl (fun ls hl => ?_)
          refine zz_wf (fun n stk H locs ls => ∃ k37 : Nat, ∃ z38 : Int32, ∃ st39 : Nat → Nat → Int32, ∃ sl40 : Nat → Nat → Int64, n = 25 - k37 ∧ 0 ≤ k37 ∧ k37 < 25 ∧ va_P (dC, dI) vwCl (xw A C nb st39 sl40 so) H ∧ XG [1, 2, 4, 5, 13, 15, 7, 12, 14] st st39 ∧ LGq sl sl40 ∧ va_S (XA A s.heap.size) s.heap H locs ∧ lv_has ls 9 [(6, .int (nI k37)), (5, .int z38), (4, .int z33), (3, .int 1), (0, .ref (A 0)), (1, .int (nI n2)), (2, .int vb)] ∧ stk = []) ?_ (25 - 0) _ _ _ _ ⟨0, r34, st36, sl, rfl, by omega, by omega, hP, hG, hL, hS, lv_sub hl [0, 1, 2, 3, 4, 5, 6] rfl, rfl⟩
          rintro nn stk H locs ls ⟨k37, z38, st39, sl40, hm42, hv41_0, hv42_1, hP, hG, hL, hS, hl, rfl⟩ ih43
          refine lv_iload hx hb dX11_best_87 (lv_at hl 0 rfl) ?_
          refine lv_bipush (v := 24) hx hb dX11_best_89 (by decide) ?_
          refine lv_icmp_ge (tgt := 158) hx hb dX11_best_91 (by decide) (fun c8 => ?_) (fun c8 => ?_)
          · have c8 : 24 ≤ k37 := (nI_leI (a := 24) (b := k37) (by omega) (by omega)).mp c8
            refine lv_iload hx hb dX11_best_158 (lv_at hl 2 rfl) ?_
            refine lv_iload hx hb dX11_best_160 (lv_at hl 1 rfl) ?_
            refine lv_iadd hx hb dX11_best_162 ?_
            refine lv_topi (fun z44 ez44 => ?_)
            clear ez44
            exact W.iret (v := z44) hx hb hr (fun t ht hW => ⟨⟨z44, (st39, sl40, so), rfl, ⟨hG, hL, rfl, trivial⟩, xB.of ht hP⟩, hS.F ht⟩) hS.2.2 dX11_best_163
          · have c8 : ¬ 24 ≤ k37 := fun hh => c8 ((nI_leI (a := 24) (b := k37) (by omega) (by omega)).mpr hh)
            refine lv_iload hx hb dX11_best_94 (lv_at hl 0 rfl) ?_
            refine lv_istore (lv' := [(7, .int (nI k37)), (6, .int (nI k37)), (5, .int z38), (4, .int z33), (3, .int 1), (0, .ref (A 0)), (1, .int (nI n2)), (2, .int vb)]) hx hb dX11_best_96 hl (by decide) rfl (fun ls hl => ?_)
            refine zz_wf (fun n stk H locs ls => ∃ k45 : Nat, ∃ z46 : Int32, ∃ st47 : Nat → Nat → Int32, ∃ sl48 : Nat → Nat → Int64, n = 25 - k45 ∧ 0 ≤ k45 ∧ k45 < 25 ∧ va_P (dC, dI) vwCl (xw A C nb st47 sl48 so) H ∧ XG [1, 2, 4, 5, 13, 15, 7, 12, 14] st st47 ∧ LGq sl sl48 ∧ va_S (XA A s.heap.size) s.heap H locs ∧ lv_has ls 9 [(7, .int (nI k45)), (6, .int (nI k37)), (5, .int z46), (4, .int z33), (3, .int 1), (0, .ref (A 0)), (1, .int (nI n2)), (2, .int vb)] ∧ stk = []) ?_ (25 - k37) _ _ _ _ ⟨k37, z38, st39, sl40, rfl, by omega, by omega, hP, hG, hL, hS, lv_sub hl [0, 1, 2, 3, 4, 5, 6, 7] rfl, rfl⟩
            rintro nn stk H locs ls ⟨k45, z46, st47, sl48, hm50, hv49_0, hv50_1, hP, hG, hL, hS, hl, rfl⟩ ih51
            refine lv_iload hx hb dX11_best_98 (lv_at hl 0 rfl) ?_
            refine lv_bipush (v := 24) hx hb dX11_best_100 (by decide) ?_
            refine lv_icmp_ge (tgt := 152) hx hb dX11_best_102 (by decide) (fun c9 => ?_) (fun c9 => ?_)
            · have c9 : 24 ≤ k45 := (nI_leI (a := 24) (b := k45) (by omega) (by omega)).mp c9
              refine lv_iinc (v := (nI (k37 + 1))) (lv' := [(6, .int (nI (k37 + 1))), (7, .int (nI k45)), (5, .int z46), (4, .int z33), (3, .int 1), (0, .ref (A 0)), (1, .int (nI n2)), (2, .int vb)]) hx hb dX11_best_152 hl (k := 1) rfl (nI_add k37 1) (by decide) rfl (fun ls hl => ?_)
              refine lv_goto (tgt := 87) hx hb dX11_best_155 (by decide) ?_
              exact ih43 (25 - (k37 + 1)) _ _ _ _ (by omega) ⟨(k37 + 1), z46, st47, sl48, rfl, by omega, by omega, hP, hG, hL, hS, lv_sub hl [0, 2, 3, 4, 5, 6, 7] rfl, rfl⟩
            · have c9 : ¬ 24 ≤ k45 := fun hh => c9 ((nI_leI (a := 24) (b := k45) (by omega) (by omega)).mpr hh)
              refine lv_aload_n hx hb dX11_best_105 rfl (lv_at hl 5 rfl) ?_
              refine va_get (D := (dC, dI)) (ci := 10) (v := .ref (A (36 + 20 * 0))) (C := RX11) (T := TX11) (N := 19) hx hb hts ii_X11_best_X11 hown hK hP 0 (xw_is (r := 0) (by omega) (xc_fix (r := 0) (by omega))) rfl 1 (by decide) (hts _ mm_X11_best_1) (fun _ hh => hh) rfl dX11_best_106 ?_
              refine lv_iload_n hx hb dX11_best_109 rfl (lv_at hl 6 rfl) ?_
              refine lv_iload_n hx hb dX11_best_110 rfl (lv_at hl 4 rfl) ?_
              refine lv_iload hx hb dX11_best_111 (lv_at hl 1 rfl) ?_
              refine lv_iload hx hb dX11_best_113 (lv_at hl 0 rfl) ?_
              refine va_calli (va_runS (As := [.int (nI k37), .int (nI k45)]) (rest := [.int 1, .int (nI n2), .ref (A (36 + 20 * 0))]) ⟨hx, hb, hml, hown, hts⟩ (x_X11_hoursOf l dC dI ad E hEE A C nb _ hN st47 sl48 so (nI k37) (nI k45)  hG.1) (va_cwS 2 hts gX11_best_X11_hoursOf rfl rfl rfl (by decide +kernel) ⟨Nat.le_of_ble_eq_true rfl, Nat.le_of_ble_eq_true rfl⟩) ⟨fun a U g mk q => ⟨q.1, xPre.blind hEE q.2⟩, fun U hU hW => ⟨rfl, xPre.of hEE hP hK hE hS hU hW⟩⟩ rfl rfl hl.1 rfl (lv_room (Nat.le_of_ble_eq_true rfl)) dX11_best_115 ⟨Nat.le_of_ble_eq_true rfl, Nat.le_of_ble_eq_true rfl⟩) hS (fun q _ h => XA.le hS.1 q h) (XA.le hS.1) (fun r52 x t H locs ht hvm hw hB _ _ hS => ?_)
              have hP := xB.at ht hB
              clear hB ht hvm
              obtain ⟨rfl, hw⟩ := hw
              have hP : va_P (dC, dI) vwCl (xw A C nb st47 sl48 so) _ := hP
              clear hw
              refine va_calli (va_runS (As := [.ref (A (36 + 20 * 0)), .int (nI n2), .int 1, .int r52]) (rest := []) ⟨hx, hb, hml, hown, hts⟩ (x_X9_goodHere l dC dI ad E hEE A C nb _ hN st47 sl48 so 0 n2 1 r52 (by omega) (by omega) hG.1) (va_cwS 4 hts gX11_best_X9_goodHere rfl rfl rfl (by decide +kernel) ⟨Nat.le_of_ble_eq_true rfl, Nat.le_of_ble_eq_true rfl⟩) ⟨fun a U g mk q => ⟨q.1, xPre.blind hEE q.2⟩, fun U hU hW => ⟨rfl, xPre.of hEE hP hK hE hS hU hW⟩⟩ rfl rfl hl.1 rfl (lv_room (Nat.le_of_ble_eq_true rfl)) dX11_best_118 ⟨Nat.le_of_ble_eq_true rfl, Nat.le_of_ble_eq_true rfl⟩) hS (fun q _ h => XA.le hS.1 q h) (XA.le hS.1) (fun r53 x t H locs ht hvm hw hB _ _ hS => ?_)
              have hP := xB.at ht hB
              clear hB ht hvm
              obtain ⟨rfl, hw⟩ := hw
              have hP : va_P (dC, dI) vwCl (xw A C nb st47 sl48 so) _ := hP
              clear hw
              refine lv_istore (lv' := [(8, .int r53), (7, .int (nI k45)), (6, .int (nI k37)), (5, .int z46), (4, .int z33), (3, .int 1), (0, .ref (A 0)), (1, .int (nI n2)), (2, .int vb)]) hx hb dX11_best_121 hl (by decide) rfl (fun ls hl => ?_)
              refine lv_iload hx hb dX11_best_123 (lv_at hl 0 rfl) ?_
              refine lv_iload hx hb dX11_best_125 (lv_at hl 3 rfl) ?_
              refine lv_icmp_le (tgt := 146) hx hb dX11_best_127 (by decide) (fun c10 => ?_) (fun c10 => ?_)
              · refine lv_iinc (v := (nI (k45 + 1))) (lv' := [(7, .int (nI (k45 + 1))), (8, .int r53), (6, .int (nI k37)), (5, .int z46), (4, .int z33), (3, .int 1), (0, .ref (A 0)), (1, .int (nI n2)), (2, .int vb)]) hx hb dX11_best_146 hl (k := 1) rfl (nI_add k45 1) (by decide) rfl (fun ls hl => ?_)
                refine lv_goto (tgt := 98) hx hb dX11_best_149 (by decide) ?_
                exact ih51 (25 - (k45 + 1)) _ _ _ _ (by omega) ⟨(k45 + 1), z46, st47, sl48, rfl, by omega, by omega, hP, hG, hL, hS, lv_sub hl [0, 2, 3, 4, 5, 6, 7, 8] rfl, rfl⟩
              · refine lv_iload hx hb dX11_best_130 (lv_at hl 0 rfl) ?_
                refine lv_istore (lv' := [(5, .int r53), (8, .int r53), (7, .int (nI k45)), (6, .int (nI k37)), (4, .int z33), (3, .int 1), (0, .ref (A 0)), (1, .int (nI n2)), (2, .int vb)]) hx hb dX11_best_132 hl (by decide) rfl (fun ls hl => ?_)
                refine lv_aload_n hx hb dX11_best_134 rfl (lv_at hl 6 rfl) ?_
                refine lv_iload hx hb dX11_best_135 (lv_at hl 3 rfl) ?_
                refine va_put (D := (dC, dI)) (ci := 10) (v := .int (nI k37)) (ty := .int) (C := RX11) (T := TX11) (N := 19) hx hb hts ii_X11_best_X11 tyX11 tyX11_ok nmX11 hown hK hP (xD hN _ _ _ _ _ _) hS 0 (xw_is (r := 0) (by omega) (xc_fix (r := 0) (by omega))) rfl 17 (by decide) (hts _ mm_X11_best_2) (fun _ hh => hh) rfl (by decide +kernel) rfl rfl (Nat.le_of_ble_eq_true rfl) dX11_best_137 (fun H locs hP _ hS => ?_)
                have hP : va_P (dC, dI) vwCl (xw A C nb (up2 st47 0 17 (nI k37)) sl48 so) H := by rw [← xset (r := 0) (k := 17) (v := (nI k37)) (xc_fix (r := 0) (by omega))]; exact hP
                obtain ⟨st54, est54⟩ : ∃ y, y = up2 st47 0 17 (nI k37) := ⟨_, rfl⟩
                have hG : XG [1, 2, 4, 5, 13, 15, 7, 12, 14] st st54 := by rw [est54]; exact hG.up (xz (r := 0) (k := 17) (by decide : xrg 0 17 = 0)) (xpn (c := 0) (by decide : xcl 0 17 = 0) (by decide))
                rw [← est54] at hP
                refine lv_aload_n hx hb dX11_best_140 rfl (lv_at hl 6 rfl) ?_
                refine lv_iload hx hb dX11_best_141 (lv_at hl 2 rfl) ?_
                refine va_put (D := (dC, dI)) (ci := 10) (v := .int (nI k45)) (ty := .int) (C := RX11) (T := TX11) (N := 19) hx hb hts ii_X11_best_X11 tyX11 tyX11_ok nmX11 hown hK hP (xD hN _ _ _ _ _ _) hS 0 (xw_is (r := 0) (by omega) (xc_fix (r := 0) (by omega))) rfl 18 (by decide) (hts _ mm_X11_best_3) (fun _ hh => hh) rfl (by decide +kernel) rfl rfl (Nat.le_of_ble_eq_true rfl) dX11_best_143 (fun H locs hP _ hS => ?_)
                have hP : va_P (dC, dI) vwCl (xw A C nb (up2 st54 0 18 (nI k45)) sl48 so) H := by rw [← xset (r := 0) (k := 18) (v := (nI k45)) (xc_fix (r := 0) (by omega))]; exact hP
                obtain ⟨st55, est55⟩ : ∃ y, y = up2 st54 0 18 (nI k45) := ⟨_, rfl⟩
                have hG : XG [1, 2, 4, 5, 13, 15, 7, 12, 14] st st55 := by rw [est55]; exact hG.up (xz (r := 0) (k := 18) (by decide : xrg 0 18 = 0)) (xpn (c := 0) (by decide : xcl 0 18 = 0) (by decide))
                rw [← est55] at hP
                refine lv_iinc (v := (nI (k45 + 1))) (lv' := [(7, .int (nI (k45 + 1))), (5, .int r53), (8, .int r53), (6, .int (nI k37)), (4, .int z33), (3, .int 1), (0, .ref (A 0)), (1, .int (nI n2)), (2, .int vb)]) hx hb dX11_best_146 hl (k := 2) rfl (nI_add k45 1) (by decide) rfl (fun ls hl => ?_)
                refine lv_goto (tgt := 98) hx hb dX11_best_149 (by decide) ?_
                exact ih51 (25 - (k45 + 1)) _ _ _ _ (by omega) ⟨(k45 + 1), r53, st55, sl48, rfl, by omega, by omega, hP, hG, hL, hS, lv_sub hl [0, 3, 1, 4, 5, 6, 7, 8] rfl, rfl⟩
      · refine lv_iconst (v := (-1)) hx hb dX11_best_20 (by decide) ?_
        exact W.iret (v := (-1)) hx hb hr (fun t ht hW => ⟨⟨(-1), (st, sl, so), rfl, ⟨hG, hL, rfl, trivial⟩, xB.of ht hP⟩, hS.F ht⟩) hS.2.2 dX11_best_21
  · refine lv_if_eq (tgt := 20) hx hb dX11_best_8 (by decide) (fun _ => ?_) (fun cc => absurd (by decide) cc)
    refine lv_iconst (v := (-1)) hx hb dX11_best_20 (by decide) ?_
    exact W.iret (v := (-1)) hx hb hr (fun t ht hW => ⟨⟨(-1), (st, sl, so), rfl, ⟨hG, hL, rfl, trivial⟩, xB.of ht hP⟩, hS.F ht⟩) hS.2.2 dX11_best_21
set_option maxHeartbeats 4000000 in
set_option maxRecDepth 100000 in
theorem x_X11_bestAt (l : Launch) (dC : Nat → ClassId) (dI : Nat → Nat → Nat) (ad : Nat → Nat) (E : EP) (hEE : EC ad E) (A : Nat → Nat) (C : Nat → ClassId) (nb sz : Nat) (hN : XN A) (st : Nat → Nat → Int32) (sl : Nat → Nat → Int64) (so : Nat → XR) (va : Int32) (hI : XI st) : Met l yX11_bestAt wsX11_bestAt ({ frames := 0, cells := 0, slots := 0, locals := 0 }) (va_Pc [.ref (A 0), .int va] (xPre E dC dI A C nb sz st sl so)) (va_Qi (fun (r : Int32) (x : XT) => XG [1, 2, 4, 5, 13, 15, 7, 12, 14] st x.1 ∧ LGq sl x.2.1 ∧ x.2.2 = so ∧ (True)) (xB dC dI A C nb) (XA A sz)) 0 0 (XA A sz) := by
  refine Met.ofW (cc := cX11_bestAt) (maxL := 2) (ret := (some .int)) (by decide) rfl ?_
  intro p e s m args below meth c s₁ B hml hv
  obtain ⟨rfl, hsz, hP, hK, hE⟩ := hv
  have hx := B.exec
  have hb := B.bytes
  have hr := B.returns
  have hts := atoms_spec (ws := wsX11_bestAt) B.pre
  have hown : s.vm.findClass RX11 = some m.cls := findClass_of_methodNamed B.named
  subst hsz
  have hEv := hEE.1 _ _ _ hE
  have hS : va_S (XA A s.heap.size) s.heap s.heap [] := va_S.rf
  have hG : XG [1, 2, 4, 5, 13, 15, 7, 12, 14] st st := XG.rf hI
  have hl := lv_entry ([.ref (A 0), .int va]) (n := 2) (Nat.le_of_ble_eq_true rfl)
  rw [lg_entry_eq]
  generalize (lg_sl ([.ref (A 0), .int va]) ++ List.replicate (2 - (lg_sl ([.ref (A 0), .int va])).length) Slot.unset).toArray = ls at hl ⊢
  have hl : lv_has ls 2 [(0, .ref (A 0)), (1, .int va)] := hl
  have hL : LGq sl sl := LGq.rf
  refine lv_iload_n hx hb dX11_bestAt_0 rfl (lv_at hl 1 rfl) ?_
  refine lv_if_ne (tgt := 9) hx hb dX11_bestAt_1 (by decide) (fun c1 => ?_) (fun c1 => ?_)
  · refine lv_iload_n hx hb dX11_bestAt_9 rfl (lv_at hl 1 rfl) ?_
    refine lv_iconst (v := 1) hx hb dX11_bestAt_10 (by decide) ?_
    refine lv_icmp_ne (tgt := 21) hx hb dX11_bestAt_11 (by decide) (fun c2 => ?_) (fun c2 => ?_)
    · refine lv_iconst (v := (-1)) hx hb dX11_bestAt_21 (by decide) ?_
      exact W.iret (v := (-1)) hx hb hr (fun t ht hW => ⟨⟨(-1), (st, sl, so), rfl, ⟨hG, hL, rfl, trivial⟩, xB.of ht hP⟩, hS.F ht⟩) hS.2.2 dX11_bestAt_22
    · refine lv_aload_n hx hb dX11_bestAt_14 rfl (lv_at hl 0 rfl) ?_
      refine va_get (D := (dC, dI)) (ci := 10) (v := .int (st 0 18)) (C := RX11) (T := TX11) (N := 19) hx hb hts ii_X11_bestAt_X11 hown hK hP 0 (xw_is (r := 0) (by omega) (xc_fix (r := 0) (by omega))) rfl 18 (by decide) (hts _ mm_X11_bestAt_2) (fun _ hh => hh) rfl dX11_bestAt_15 ?_
      obtain ⟨z1, ez1⟩ : ∃ y : Int32, st 0 18 = y := ⟨_, rfl⟩
      refine zz_top (v := z1) (by exact ez1) ?_
      refine lv_goto (tgt := 22) hx hb dX11_bestAt_18 (by decide) ?_
      exact W.iret (v := z1) hx hb hr (fun t ht hW => ⟨⟨z1, (st, sl, so), rfl, ⟨hG, hL, rfl, trivial⟩, xB.of ht hP⟩, hS.F ht⟩) hS.2.2 dX11_bestAt_22
  · refine lv_aload_n hx hb dX11_bestAt_4 rfl (lv_at hl 0 rfl) ?_
    refine va_get (D := (dC, dI)) (ci := 10) (v := .int (st 0 17)) (C := RX11) (T := TX11) (N := 19) hx hb hts ii_X11_bestAt_X11 hown hK hP 0 (xw_is (r := 0) (by omega) (xc_fix (r := 0) (by omega))) rfl 17 (by decide) (hts _ mm_X11_bestAt_1) (fun _ hh => hh) rfl dX11_bestAt_5 ?_
    obtain ⟨z2, ez2⟩ : ∃ y : Int32, st 0 17 = y := ⟨_, rfl⟩
    refine zz_top (v := z2) (by exact ez2) ?_
    exact W.iret (v := z2) hx hb hr (fun t ht hW => ⟨⟨z2, (st, sl, so), rfl, ⟨hG, hL, rfl, trivial⟩, xB.of ht hP⟩, hS.F ht⟩) hS.2.2 dX11_bestAt_8
set_option maxHeartbeats 4000000 in
set_option maxRecDepth 100000 in
theorem x_X11_fences (l : Launch) (dC : Nat → ClassId) (dI : Nat → Nat → Nat) (ad : Nat → Nat) (E : EP) (hEE : EC ad E) (A : Nat → Nat) (C : Nat → ClassId) (nb sz : Nat) (hN : XN A) (st : Nat → Nat → Int32) (sl : Nat → Nat → Int64) (so : Nat → XR) (hI : XI st) : Met l yX11_fences wsX11_fences ({ frames := 6, cells := 0, slots := 0, locals := 135 }) (va_Pc [.ref (A 0)] (xPre E dC dI A C nb sz st sl so)) (va_Qi (fun (r : Int32) (x : XT) => XG [1, 2, 4, 5, 13, 15, 12, 14] st x.1 ∧ x.2.2 = so ∧ (NI st sl x.1 x.2.1)) (xB dC dI A C nb) (XA A sz)) 0 0 (XA A sz) := by
  refine Met.ofW (cc := cX11_fences) (maxL := 1) (ret := (some .int)) (by decide) rfl ?_
  intro p e s m args below meth c s₁ B hml hv
  obtain ⟨rfl, hsz, hP, hK, hE⟩ := hv
  have hx := B.exec
  have hb := B.bytes
  have hr := B.returns
  have hts := atoms_spec (ws := wsX11_fences) B.pre
  have hown : s.vm.findClass RX11 = some m.cls := findClass_of_methodNamed B.named
  subst hsz
  have hEv := hEE.1 _ _ _ hE
  have hS : va_S (XA A s.heap.size) s.heap s.heap [] := va_S.rf
  have hG : XG [1, 2, 4, 5, 13, 15, 12, 14] st st := XG.rf hI
  have hl := lv_entry ([.ref (A 0)]) (n := 1) (Nat.le_of_ble_eq_true rfl)
  rw [lg_entry_eq]
  generalize (lg_sl ([.ref (A 0)]) ++ List.replicate (1 - (lg_sl ([.ref (A 0)])).length) Slot.unset).toArray = ls at hl ⊢
  have hl : lv_has ls 1 [(0, .ref (A 0))] := hl
  have hni : NI st sl st sl := NI.rf
  refine lv_aload_n hx hb dX11_fences_0 rfl (lv_at hl 0 rfl) ?_
  refine va_get (D := (dC, dI)) (ci := 10) (v := .ref (A (36 + 20 * 1))) (C := RX11) (T := TX11) (N := 19) hx hb hts ii_X11_fences_X11 hown hK hP 0 (xw_is (r := 0) (by omega) (xc_fix (r := 0) (by omega))) rfl 2 (by decide) (hts _ mm_X11_fences_1) (fun _ hh => hh) rfl dX11_fences_1 ?_
  refine lv_aload_n hx hb dX11_fences_4 rfl (lv_at hl 0 rfl) ?_
  refine va_get (D := (dC, dI)) (ci := 10) (v := .ref (A (36 + 20 * 0))) (C := RX11) (T := TX11) (N := 19) hx hb hts ii_X11_fences_X11 hown hK hP 0 (xw_is (r := 0) (by omega) (xc_fix (r := 0) (by omega))) rfl 1 (by decide) (hts _ mm_X11_fences_2) (fun _ hh => hh) rfl dX11_fences_5 ?_
  refine va_callv (va_runV (As := [.ref (A (36 + 20 * 0))]) (rest := []) ⟨hx, hb, hml, hown, hts⟩ (x_X4_copyFrom l dC dI ad E hEE A C nb _ hN st sl so 1 0 (by omega) (by omega) hG.1 (by omega)) (cwV 1 hts gX11_fences_X4_copyFrom rfl rfl rfl (by decide +kernel) ⟨Nat.le_of_ble_eq_true rfl, Nat.le_of_ble_eq_true rfl⟩) ⟨fun a U g mk q => ⟨q.1, xPre.blind hEE q.2⟩, va_recv hK hP (ci := 5) (q0 := (36 + 20 * 1)) rfl (xw_is (r := (36 + 20 * 1)) (by omega) (xc_pk (i := 1) (o := 0) (by omega) (by omega))), fun U hU hW => ⟨rfl, xPre.of hEE hP hK hE hS hU hW⟩⟩ rfl rfl hl.1 rfl (lv_room (Nat.le_of_ble_eq_true rfl)) dX11_fences_8 ⟨Nat.le_of_ble_eq_true rfl, Nat.le_of_ble_eq_true rfl⟩) hS (fun q _ h => XA.le hS.1 q h) (XA.le hS.1) (fun x t H locs ht hvm hw hB _ _ hS => ?_)
  have hP := xB.at ht hB
  clear hB ht hvm
  obtain ⟨st2, sl3, so4⟩ := x
  obtain ⟨hGst2, hOst2, hw⟩ := hw
  dsimp only at hGst2 hOst2 hw
  replace hOst2 := hOst2.symm
  subst hOst2
  have hP : va_P (dC, dI) vwCl (xw A C nb st2 sl3 so) _ := hP
  have hG : XG [1, 2, 4, 5, 13, 15, 12, 14] st st2 := hG.tr hGst2 (by decide)
  have hf5 := hw
  have hni : NI st sl st2 sl3 := hni.cq hf5 hGst2 (by decide)
  refine lv_aload_n hx hb dX11_fences_11 rfl (lv_at hl 0 rfl) ?_
  refine va_get (D := (dC, dI)) (ci := 10) (v := .ref (A (36 + 20 * 1))) (C := RX11) (T := TX11) (N := 19) hx hb hts ii_X11_fences_X11 hown hK hP 0 (xw_is (r := 0) (by omega) (xc_fix (r := 0) (by omega))) rfl 2 (by decide) (hts _ mm_X11_fences_1) (fun _ hh => hh) rfl dX11_fences_12 ?_
  refine va_calli (va_runS (As := [.ref (A (36 + 20 * 1))]) (rest := []) ⟨hx, hb, hml, hown, hts⟩ (x_X9_bestFence l dC dI ad E hEE A C nb _ hN st2 sl3 so 1 (by omega) hG.1) (va_cwS 1 hts gX11_fences_X9_bestFence rfl rfl rfl (by decide +kernel) ⟨Nat.le_of_ble_eq_true rfl, Nat.le_of_ble_eq_true rfl⟩) ⟨fun a U g mk q => ⟨q.1, xPre.blind hEE q.2⟩, fun U hU hW => ⟨rfl, xPre.of hEE hP hK hE hS hU hW⟩⟩ rfl rfl hl.1 rfl (lv_room (Nat.le_of_ble_eq_true rfl)) dX11_fences_15 ⟨Nat.le_of_ble_eq_true rfl, Nat.le_of_ble_eq_true rfl⟩) hS (fun q _ h => XA.le hS.1 q h) (XA.le hS.1) (fun r6 x t H locs ht hvm hw hB _ _ hS => ?_)
  have hP := xB.at ht hB
  clear hB ht hvm
  obtain ⟨st7, sl8, so9⟩ := x
  obtain ⟨hGst7, hLGst7, hOst7, hw⟩ := hw
  dsimp only at hGst7 hLGst7 hOst7 hw
  replace hOst7 := hOst7.symm
  subst hOst7
  have hP : va_P (dC, dI) vwCl (xw A C nb st7 sl8 so) _ := hP
  have hG : XG [1, 2, 4, 5, 13, 15, 12, 14] st st7 := hG.tr hGst7 (by decide)
  clear hw
  have hni : NI st sl st7 sl8 := hni.mg hGst7 (by decide) (by decide) hLGst7
  exact W.iret (v := r6) hx hb hr (fun t ht hW => ⟨⟨r6, (st7, sl8, so), rfl, ⟨hG, rfl, hni⟩, xB.of ht hP⟩, hS.F ht⟩) hS.2.2 dX11_fences_18
set_option maxHeartbeats 4000000 in
set_option maxRecDepth 100000 in
theorem x_X11_perils (l : Launch) (dC : Nat → ClassId) (dI : Nat → Nat → Nat) (ad : Nat → Nat) (E : EP) (hEE : EC ad E) (A : Nat → Nat) (C : Nat → ClassId) (nb sz : Nat) (hN : XN A) (st : Nat → Nat → Int32) (sl : Nat → Nat → Int64) (so : Nat → XR) (va : Int32) (hI : XI st) : Met l yX11_perils wsX11_perils ({ frames := 3, cells := 0, slots := 0, locals := 72 }) (va_Pc [.ref (A 0), .int va] (xPre E dC dI A C nb sz st sl so)) (va_Qi (fun (r : Int32) (x : XT) => XG [1, 2, 4, 5, 13, 15, 7, 12, 14] st x.1 ∧ LGq sl x.2.1 ∧ x.2.2 = so ∧ (True)) (xB dC dI A C nb) (XA A sz)) 0 0 (XA A sz) := by
  refine Met.ofW (cc := cX11_perils) (maxL := 2) (ret := (some .int)) (by decide) rfl ?_
  intro p e s m args below meth c s₁ B hml hv
  obtain ⟨rfl, hsz, hP, hK, hE⟩ := hv
  have hx := B.exec
  have hb := B.bytes
  have hr := B.returns
  have hts := atoms_spec (ws := wsX11_perils) B.pre
  have hown : s.vm.findClass RX11 = some m.cls := findClass_of_methodNamed B.named
  subst hsz
  have hEv := hEE.1 _ _ _ hE
  have hS : va_S (XA A s.heap.size) s.heap s.heap [] := va_S.rf
  have hG : XG [1, 2, 4, 5, 13, 15, 7, 12, 14] st st := XG.rf hI
  have hl := lv_entry ([.ref (A 0), .int va]) (n := 2) (Nat.le_of_ble_eq_true rfl)
  rw [lg_entry_eq]
  generalize (lg_sl ([.ref (A 0), .int va]) ++ List.replicate (2 - (lg_sl ([.ref (A 0), .int va])).length) Slot.unset).toArray = ls at hl ⊢
  have hl : lv_has ls 2 [(0, .ref (A 0)), (1, .int va)] := hl
  have hL : LGq sl sl := LGq.rf
  refine lv_aload_n hx hb dX11_perils_0 rfl (lv_at hl 0 rfl) ?_
  refine va_get (D := (dC, dI)) (ci := 10) (v := .ref (A (36 + 20 * 0))) (C := RX11) (T := TX11) (N := 19) hx hb hts ii_X11_perils_X11 hown hK hP 0 (xw_is (r := 0) (by omega) (xc_fix (r := 0) (by omega))) rfl 1 (by decide) (hts _ mm_X11_perils_1) (fun _ hh => hh) rfl dX11_perils_1 ?_
  refine lv_iload_n hx hb dX11_perils_4 rfl (lv_at hl 1 rfl) ?_
  refine va_calli (va_runV (As := [.int va]) (rest := []) ⟨hx, hb, hml, hown, hts⟩ (x_X4_hasPerson l dC dI ad E hEE A C nb _ hN st sl so 0 va (by omega) hG.1) (cwV 1 hts gX11_perils_X4_hasPerson rfl rfl rfl (by decide +kernel) ⟨Nat.le_of_ble_eq_true rfl, Nat.le_of_ble_eq_true rfl⟩) ⟨fun a U g mk q => ⟨q.1, xPre.blind hEE q.2⟩, va_recv hK hP (ci := 5) (q0 := (36 + 20 * 0)) rfl (xw_is (r := (36 + 20 * 0)) (by omega) (xc_pk (i := 0) (o := 0) (by omega) (by omega))), fun U hU hW => ⟨rfl, xPre.of hEE hP hK hE hS hU hW⟩⟩ rfl rfl hl.1 rfl (lv_room (Nat.le_of_ble_eq_true rfl)) dX11_perils_5 ⟨Nat.le_of_ble_eq_true rfl, Nat.le_of_ble_eq_true rfl⟩) hS (fun q _ h => XA.le hS.1 q h) (XA.le hS.1) (fun r1 x t H locs ht hvm hw hB _ _ hS => ?_)
  have hP := xB.at ht hB
  clear hB ht hvm
  obtain ⟨rfl, hw⟩ := hw
  have hP : va_P (dC, dI) vwCl (xw A C nb st sl so) _ := hP
  rcases hw with ⟨n2, rfl, hf3, rfl⟩ | rfl
  · refine lv_if_eq (tgt := 26) hx hb dX11_perils_8 (by decide) (fun cc => absurd cc (by decide)) (fun _ => ?_)
    refine lv_aload_n hx hb dX11_perils_11 rfl (lv_at hl 0 rfl) ?_
    refine va_get (D := (dC, dI)) (ci := 10) (v := .ref (A (36 + 20 * 0))) (C := RX11) (T := TX11) (N := 19) hx hb hts ii_X11_perils_X11 hown hK hP 0 (xw_is (r := 0) (by omega) (xc_fix (r := 0) (by omega))) rfl 1 (by decide) (hts _ mm_X11_perils_1) (fun _ hh => hh) rfl dX11_perils_12 ?_
    refine va_getN (host := "OffTheLead") (D := (dC, dI)) (ci := 5) (v := .ref (A (36 + 20 * 0 + 4))) (C := RX4) (T := TX4) (N := 12) hx hb hts ii_X11_perils_X4 hown hK hP (36 + 20 * 0) (xw_is (r := (36 + 20 * 0)) (by omega) (xc_pk (i := 0) (o := 0) (by omega) (by omega))) rfl 3 (by decide) (va_Nw.use rfl (nf_X11_140 hEv)) (fun _ hh => hh) rfl dX11_perils_15 ?_
    refine lv_iload_n hx hb dX11_perils_18 rfl (lv_at hl 1 rfl) ?_
    refine va_aldq hx hb hK hP (36 + 20 * 0 + 4) (36 + 20 * 0 + 4) (xw_is (r := (36 + 20 * 0 + 4)) (by omega) (xc_pk (i := 0) (o := 4) (by omega) (by omega))) (xt_is (r := (36 + 20 * 0 + 4)) (by omega) ((xty_pk (i := 0) (o := 4) (by omega)).trans rfl)) (i := (nI n2)) (vp_in_nI (by omega) (by decide)) dX11_perils_19 ?_
    refine zz_topq (r := some (A (36 + 20 * 0 + (6 + n2)))) (by rw [nI_clamp (by omega)]; exact congrArg some (congrArg A (by omega))) ?_
    refine va_getN (host := "OffTheLead") (D := (dC, dI)) (ci := 7) (v := .int (st (36 + 20 * 0 + (6 + n2)) 8)) (C := RX6) (T := TX6) (N := 9) hx hb hts ii_X11_perils_X6 hown hK hP (36 + 20 * 0 + (6 + n2)) (xw_is (r := (36 + 20 * 0 + (6 + n2))) (by omega) (xc_person (i := 0) (p := n2) (by omega) (by omega))) rfl 8 (by decide) (va_Nw.use rfl (nf_X11_167 hEv)) (fun _ hh => hh) rfl dX11_perils_20 ?_
    obtain ⟨z4, ez4⟩ : ∃ y : Int32, st (36 + 20 * 0 + (6 + n2)) 8 = y := ⟨_, rfl⟩
    refine zz_top (v := z4) (by exact ez4) ?_
    refine lv_if_eq (tgt := 28) hx hb dX11_perils_23 (by decide) (fun c2 => ?_) (fun c2 => ?_)
    · refine lv_aload_n hx hb dX11_perils_28 rfl (lv_at hl 0 rfl) ?_
      refine va_get (D := (dC, dI)) (ci := 10) (v := .ref (A (36 + 20 * 0))) (C := RX11) (T := TX11) (N := 19) hx hb hts ii_X11_perils_X11 hown hK hP 0 (xw_is (r := 0) (by omega) (xc_fix (r := 0) (by omega))) rfl 1 (by decide) (hts _ mm_X11_perils_1) (fun _ hh => hh) rfl dX11_perils_29 ?_
      refine lv_iload_n hx hb dX11_perils_32 rfl (lv_at hl 1 rfl) ?_
      refine va_calli (va_runS (As := [.ref (A (36 + 20 * 0)), .int (nI n2)]) (rest := []) ⟨hx, hb, hml, hown, hts⟩ (x_X9_perilsOf l dC dI ad E hEE A C nb _ hN st sl so 0 n2 (by omega) (by omega) hG.1) (va_cwS 2 hts gX11_perils_X9_perilsOf rfl rfl rfl (by decide +kernel) ⟨Nat.le_of_ble_eq_true rfl, Nat.le_of_ble_eq_true rfl⟩) ⟨fun a U g mk q => ⟨q.1, xPre.blind hEE q.2⟩, fun U hU hW => ⟨rfl, xPre.of hEE hP hK hE hS hU hW⟩⟩ rfl rfl hl.1 rfl (lv_room (Nat.le_of_ble_eq_true rfl)) dX11_perils_33 ⟨Nat.le_of_ble_eq_true rfl, Nat.le_of_ble_eq_true rfl⟩) hS (fun q _ h => XA.le hS.1 q h) (XA.le hS.1) (fun r5 x t H locs ht hvm hw hB _ _ hS => ?_)
      have hP := xB.at ht hB
      clear hB ht hvm
      obtain ⟨rfl, hw⟩ := hw
      have hP : va_P (dC, dI) vwCl (xw A C nb st sl so) _ := hP
      clear hw
      exact W.iret (v := r5) hx hb hr (fun t ht hW => ⟨⟨r5, (st, sl, so), rfl, ⟨hG, hL, rfl, trivial⟩, xB.of ht hP⟩, hS.F ht⟩) hS.2.2 dX11_perils_36
    · refine lv_iconst (v := (-1)) hx hb dX11_perils_26 (by decide) ?_
      exact W.iret (v := (-1)) hx hb hr (fun t ht hW => ⟨⟨(-1), (st, sl, so), rfl, ⟨hG, hL, rfl, trivial⟩, xB.of ht hP⟩, hS.F ht⟩) hS.2.2 dX11_perils_27
  · refine lv_if_eq (tgt := 26) hx hb dX11_perils_8 (by decide) (fun _ => ?_) (fun cc => absurd (by decide) cc)
    refine lv_iconst (v := (-1)) hx hb dX11_perils_26 (by decide) ?_
    exact W.iret (v := (-1)) hx hb hr (fun t ht hW => ⟨⟨(-1), (st, sl, so), rfl, ⟨hG, hL, rfl, trivial⟩, xB.of ht hP⟩, hS.F ht⟩) hS.2.2 dX11_perils_27
set_option maxHeartbeats 4000000 in
set_option maxRecDepth 100000 in
theorem x_X11_rounds (l : Launch) (dC : Nat → ClassId) (dI : Nat → Nat → Nat) (ad : Nat → Nat) (E : EP) (hEE : EC ad E) (A : Nat → Nat) (C : Nat → ClassId) (nb sz : Nat) (hN : XN A) (st : Nat → Nat → Int32) (sl : Nat → Nat → Int64) (so : Nat → XR) (hI : XI st) : Met l yX11_rounds wsX11_rounds ({ frames := 6, cells := 0, slots := 0, locals := 134 }) (va_Pc [.ref (A 0)] (xPre E dC dI A C nb sz st sl so)) (va_Qi (fun (r : Int32) (x : XT) => XG [1, 2, 4, 5, 13, 15, 12, 14] st x.1 ∧ x.2.2 = so ∧ (NI st sl x.1 x.2.1)) (xB dC dI A C nb) (XA A sz)) 0 0 (XA A sz) := by
  refine Met.ofW (cc := cX11_rounds) (maxL := 3) (ret := (some .int)) (by decide) rfl ?_
  intro p e s m args below meth c s₁ B hml hv
  obtain ⟨rfl, hsz, hP, hK, hE⟩ := hv
  have hx := B.exec
  have hb := B.bytes
  have hr := B.returns
  have hts := atoms_spec (ws := wsX11_rounds) B.pre
  have hown : s.vm.findClass RX11 = some m.cls := findClass_of_methodNamed B.named
  subst hsz
  have hEv := hEE.1 _ _ _ hE
  have hS : va_S (XA A s.heap.size) s.heap s.heap [] := va_S.rf
  have hG : XG [1, 2, 4, 5, 13, 15, 12, 14] st st := XG.rf hI
  have hl := lv_entry ([.ref (A 0)]) (n := 3) (Nat.le_of_ble_eq_true rfl)
  rw [lg_entry_eq]
  generalize (lg_sl ([.ref (A 0)]) ++ List.replicate (3 - (lg_sl ([.ref (A 0)])).length) Slot.unset).toArray = ls at hl ⊢
  have hl : lv_has ls 3 [(0, .ref (A 0))] := hl
  have hni : NI st sl st sl := NI.rf
  refine lv_aload_n hx hb dX11_rounds_0 rfl (lv_at hl 0 rfl) ?_
  refine va_get (D := (dC, dI)) (ci := 10) (v := .ref (A (36 + 20 * 1))) (C := RX11) (T := TX11) (N := 19) hx hb hts ii_X11_rounds_X11 hown hK hP 0 (xw_is (r := 0) (by omega) (xc_fix (r := 0) (by omega))) rfl 2 (by decide) (hts _ mm_X11_rounds_1) (fun _ hh => hh) rfl dX11_rounds_1 ?_
  refine lv_aload_n hx hb dX11_rounds_4 rfl (lv_at hl 0 rfl) ?_
  refine va_get (D := (dC, dI)) (ci := 10) (v := .ref (A (36 + 20 * 0))) (C := RX11) (T := TX11) (N := 19) hx hb hts ii_X11_rounds_X11 hown hK hP 0 (xw_is (r := 0) (by omega) (xc_fix (r := 0) (by omega))) rfl 1 (by decide) (hts _ mm_X11_rounds_2) (fun _ hh => hh) rfl dX11_rounds_5 ?_
  refine va_callv (va_runV (As := [.ref (A (36 + 20 * 0))]) (rest := []) ⟨hx, hb, hml, hown, hts⟩ (x_X4_copyFrom l dC dI ad E hEE A C nb _ hN st sl so 1 0 (by omega) (by omega) hG.1 (by omega)) (cwV 1 hts gX11_rounds_X4_copyFrom rfl rfl rfl (by decide +kernel) ⟨Nat.le_of_ble_eq_true rfl, Nat.le_of_ble_eq_true rfl⟩) ⟨fun a U g mk q => ⟨q.1, xPre.blind hEE q.2⟩, va_recv hK hP (ci := 5) (q0 := (36 + 20 * 1)) rfl (xw_is (r := (36 + 20 * 1)) (by omega) (xc_pk (i := 1) (o := 0) (by omega) (by omega))), fun U hU hW => ⟨rfl, xPre.of hEE hP hK hE hS hU hW⟩⟩ rfl rfl hl.1 rfl (lv_room (Nat.le_of_ble_eq_true rfl)) dX11_rounds_8 ⟨Nat.le_of_ble_eq_true rfl, Nat.le_of_ble_eq_true rfl⟩) hS (fun q _ h => XA.le hS.1 q h) (XA.le hS.1) (fun x t H locs ht hvm hw hB _ _ hS => ?_)
  have hP := xB.at ht hB
  clear hB ht hvm
  obtain ⟨st2, sl3, so4⟩ := x
  obtain ⟨hGst2, hOst2, hw⟩ := hw
  dsimp only at hGst2 hOst2 hw
  replace hOst2 := hOst2.symm
  subst hOst2
  have hP : va_P (dC, dI) vwCl (xw A C nb st2 sl3 so) _ := hP
  have hG : XG [1, 2, 4, 5, 13, 15, 12, 14] st st2 := hG.tr hGst2 (by decide)
  have hf5 := hw
  have hni : NI st sl st2 sl3 := hni.cq hf5 hGst2 (by decide)
  refine lv_aload_n hx hb dX11_rounds_11 rfl (lv_at hl 0 rfl) ?_
  refine va_get (D := (dC, dI)) (ci := 10) (v := .ref (A (36 + 20 * 1))) (C := RX11) (T := TX11) (N := 19) hx hb hts ii_X11_rounds_X11 hown hK hP 0 (xw_is (r := 0) (by omega) (xc_fix (r := 0) (by omega))) rfl 2 (by decide) (hts _ mm_X11_rounds_1) (fun _ hh => hh) rfl dX11_rounds_12 ?_
  refine va_calli (va_runS (As := [.ref (A (36 + 20 * 1))]) (rest := []) ⟨hx, hb, hml, hown, hts⟩ (x_X9_part l dC dI ad E hEE A C nb _ hN st2 sl3 so 1 (by omega) hG.1) (va_cwS 1 hts gX11_rounds_X9_part rfl rfl rfl (by decide +kernel) ⟨Nat.le_of_ble_eq_true rfl, Nat.le_of_ble_eq_true rfl⟩) ⟨fun a U g mk q => ⟨q.1, xPre.blind hEE q.2⟩, fun U hU hW => ⟨rfl, xPre.of hEE hP hK hE hS hU hW⟩⟩ rfl rfl hl.1 rfl (lv_room (Nat.le_of_ble_eq_true rfl)) dX11_rounds_15 ⟨Nat.le_of_ble_eq_true rfl, Nat.le_of_ble_eq_true rfl⟩) hS (fun q _ h => XA.le hS.1 q h) (XA.le hS.1) (fun r6 x t H locs ht hvm hw hB _ _ hS => ?_)
  have hP := xB.at ht hB
  clear hB ht hvm
  obtain ⟨st7, sl8, so9⟩ := x
  obtain ⟨hGst7, hLGst7, hOst7, hw⟩ := hw
  dsimp only at hGst7 hLGst7 hOst7 hw
  replace hOst7 := hOst7.symm
  subst hOst7
  have hP : va_P (dC, dI) vwCl (xw A C nb st7 sl8 so) _ := hP
  have hG : XG [1, 2, 4, 5, 13, 15, 12, 14] st st7 := hG.tr hGst7 (by decide)
  clear hw
  have hni : NI st sl st7 sl8 := hni.mg hGst7 (by decide) (by decide) hLGst7
  refine lv_istore_n (lv' := [(1, .int r6), (0, .ref (A 0))]) hx hb dX11_rounds_18 rfl hl (by decide) rfl (fun ls hl => ?_)
  refine lv_iconst (v := 0) hx hb dX11_rounds_19 (by decide) ?_
  refine lv_istore_n (lv' := [(2, .int 0), (1, .int r6), (0, .ref (A 0))]) hx hb dX11_rounds_20 rfl hl (by decide) rfl (fun ls hl => ?_)
  refine zz_wf (fun n stk H locs ls => ∃ k10 : Nat, ∃ st11 : Nat → Nat → Int32, ∃ sl12 : Nat → Nat → Int64, n = 9 - k10 ∧ 0 ≤ k10 ∧ k10 < 9 ∧ NI st sl st11 sl12 ∧ va_P (dC, dI) vwCl (xw A C nb st11 sl12 so) H ∧ XG [1, 2, 4, 5, 13, 15, 12, 14] st st11 ∧ va_S (XA A s.heap.size) s.heap H locs ∧ lv_has ls 3 [(2, .int (nI k10)), (1, .int r6), (0, .ref (A 0))] ∧ stk = []) ?_ (9 - 0) _ _ _ _ ⟨0, st7, sl8, rfl, by omega, by omega, hni, hP, hG, hS, lv_sub hl [0, 1, 2] rfl, rfl⟩
  rintro nn stk H locs ls ⟨k10, st11, sl12, hm15, hv13_0, hv14_1, hv15_0, hP, hG, hS, hl, rfl⟩ ih16
  have hni := hv15_0
  refine lv_iload_n hx hb dX11_rounds_21 rfl (lv_at hl 0 rfl) ?_
  refine lv_bipush (v := 8) hx hb dX11_rounds_22 (by decide) ?_
  refine lv_icmp_ge (tgt := 66) hx hb dX11_rounds_24 (by decide) (fun c1 => ?_) (fun c1 => ?_)
  · have c1 : 8 ≤ k10 := (nI_leI (a := 8) (b := k10) (by omega) (by omega)).mp c1
    refine lv_aload_n hx hb dX11_rounds_66 rfl (lv_at hl 2 rfl) ?_
    refine lv_aload_n hx hb dX11_rounds_67 rfl (lv_at hl 2 rfl) ?_
    refine va_get (D := (dC, dI)) (ci := 10) (v := .ref (A (36 + 20 * 1))) (C := RX11) (T := TX11) (N := 19) hx hb hts ii_X11_rounds_X11 hown hK hP 0 (xw_is (r := 0) (by omega) (xc_fix (r := 0) (by omega))) rfl 2 (by decide) (hts _ mm_X11_rounds_1) (fun _ hh => hh) rfl dX11_rounds_68 ?_
    refine lv_iconst (v := 1) hx hb dX11_rounds_71 (by decide) ?_
    refine va_calli (va_runV (As := [.int 1]) (rest := [.ref (A 0)]) ⟨hx, hb, hml, hown, hts⟩ (x_X4_goodOfAll l dC dI ad E hEE A C nb _ hN st11 sl12 so 1 1 (by omega) hG.1) (cwV 1 hts gX11_rounds_X4_goodOfAll rfl rfl rfl (by decide +kernel) ⟨Nat.le_of_ble_eq_true rfl, Nat.le_of_ble_eq_true rfl⟩) ⟨fun a U g mk q => ⟨q.1, xPre.blind hEE q.2⟩, va_recv hK hP (ci := 5) (q0 := (36 + 20 * 1)) rfl (xw_is (r := (36 + 20 * 1)) (by omega) (xc_pk (i := 1) (o := 0) (by omega) (by omega))), fun U hU hW => ⟨rfl, xPre.of hEE hP hK hE hS hU hW⟩⟩ rfl rfl hl.1 rfl (lv_room (Nat.le_of_ble_eq_true rfl)) dX11_rounds_72 ⟨Nat.le_of_ble_eq_true rfl, Nat.le_of_ble_eq_true rfl⟩) hS (fun q _ h => XA.le hS.1 q h) (XA.le hS.1) (fun r17 x t H locs ht hvm hw hB _ _ hS => ?_)
    have hP := xB.at ht hB
    clear hB ht hvm
    obtain ⟨rfl, hw⟩ := hw
    have hP : va_P (dC, dI) vwCl (xw A C nb st11 sl12 so) _ := hP
    clear hw
    refine va_put (D := (dC, dI)) (ci := 10) (v := .int r17) (ty := .int) (C := RX11) (T := TX11) (N := 19) hx hb hts ii_X11_rounds_X11 tyX11 tyX11_ok nmX11 hown hK hP (xD hN _ _ _ _ _ _) hS 0 (xw_is (r := 0) (by omega) (xc_fix (r := 0) (by omega))) rfl 15 (by decide) (hts _ mm_X11_rounds_4) (fun _ hh => hh) rfl (by decide +kernel) rfl rfl (Nat.le_of_ble_eq_true rfl) dX11_rounds_75 (fun H locs hP _ hS => ?_)
    have hP : va_P (dC, dI) vwCl (xw A C nb (up2 st11 0 15 r17) sl12 so) H := by rw [← xset (r := 0) (k := 15) (v := r17) (xc_fix (r := 0) (by omega))]; exact hP
    obtain ⟨st18, est18⟩ : ∃ y, y = up2 st11 0 15 r17 := ⟨_, rfl⟩
    have hG : XG [1, 2, 4, 5, 13, 15, 12, 14] st st18 := by rw [est18]; exact hG.up (xz (r := 0) (k := 15) (by decide : xrg 0 15 = 0)) (xpn (c := 0) (by decide : xcl 0 15 = 0) (by decide))
    rw [← est18] at hP
    have hni : NI st sl st18 sl12 := by rw [est18]; exact hni.up (fun q9 a9 h9 => by omega) (by omega)
    refine lv_iload_n hx hb dX11_rounds_78 rfl (lv_at hl 1 rfl) ?_
    exact W.iret (v := r6) hx hb hr (fun t ht hW => ⟨⟨r6, (st18, sl12, so), rfl, ⟨hG, rfl, hni⟩, xB.of ht hP⟩, hS.F ht⟩) hS.2.2 dX11_rounds_79
  · have c1 : ¬ 8 ≤ k10 := fun hh => c1 ((nI_leI (a := 8) (b := k10) (by omega) (by omega)).mpr hh)
    refine lv_aload_n hx hb dX11_rounds_27 rfl (lv_at hl 2 rfl) ?_
    refine va_get (D := (dC, dI)) (ci := 10) (v := .ref (A 16)) (C := RX11) (T := TX11) (N := 19) hx hb hts ii_X11_rounds_X11 hown hK hP 0 (xw_is (r := 0) (by omega) (xc_fix (r := 0) (by omega))) rfl 12 (by decide) (hts _ mm_X11_rounds_3) (fun _ hh => hh) rfl dX11_rounds_28 ?_
    refine lv_iload_n hx hb dX11_rounds_31 rfl (lv_at hl 0 rfl) ?_
    refine lv_aload_n hx hb dX11_rounds_32 rfl (lv_at hl 2 rfl) ?_
    refine va_get (D := (dC, dI)) (ci := 10) (v := .ref (A (36 + 20 * 1))) (C := RX11) (T := TX11) (N := 19) hx hb hts ii_X11_rounds_X11 hown hK hP 0 (xw_is (r := 0) (by omega) (xc_fix (r := 0) (by omega))) rfl 2 (by decide) (hts _ mm_X11_rounds_1) (fun _ hh => hh) rfl dX11_rounds_33 ?_
    refine lv_iload_n hx hb dX11_rounds_36 rfl (lv_at hl 0 rfl) ?_
    refine va_calli (va_runV (As := [.int (nI k10)]) (rest := [.int (nI k10), .ref (A 16)]) ⟨hx, hb, hml, hown, hts⟩ (x_X4_hasPerson l dC dI ad E hEE A C nb _ hN st11 sl12 so 1 (nI k10) (by omega) hG.1) (cwV 1 hts gX11_rounds_X4_hasPerson rfl rfl rfl (by decide +kernel) ⟨Nat.le_of_ble_eq_true rfl, Nat.le_of_ble_eq_true rfl⟩) ⟨fun a U g mk q => ⟨q.1, xPre.blind hEE q.2⟩, va_recv hK hP (ci := 5) (q0 := (36 + 20 * 1)) rfl (xw_is (r := (36 + 20 * 1)) (by omega) (xc_pk (i := 1) (o := 0) (by omega) (by omega))), fun U hU hW => ⟨rfl, xPre.of hEE hP hK hE hS hU hW⟩⟩ rfl rfl hl.1 rfl (lv_room (Nat.le_of_ble_eq_true rfl)) dX11_rounds_37 ⟨Nat.le_of_ble_eq_true rfl, Nat.le_of_ble_eq_true rfl⟩) hS (fun q _ h => XA.le hS.1 q h) (XA.le hS.1) (fun r19 x t H locs ht hvm hw hB _ _ hS => ?_)
    have hP := xB.at ht hB
    clear hB ht hvm
    obtain ⟨rfl, hw⟩ := hw
    have hP : va_P (dC, dI) vwCl (xw A C nb st11 sl12 so) _ := hP
    rcases hw with ⟨n20, rfl, hf21, hf22⟩ | rfl
    · refine lv_if_eq (tgt := 58) hx hb dX11_rounds_40 (by decide) (fun cc => absurd cc (by decide)) (fun _ => ?_)
      refine lv_aload_n hx hb dX11_rounds_43 rfl (lv_at hl 2 rfl) ?_
      refine va_get (D := (dC, dI)) (ci := 10) (v := .ref (A (36 + 20 * 1))) (C := RX11) (T := TX11) (N := 19) hx hb hts ii_X11_rounds_X11 hown hK hP 0 (xw_is (r := 0) (by omega) (xc_fix (r := 0) (by omega))) rfl 2 (by decide) (hts _ mm_X11_rounds_1) (fun _ hh => hh) rfl dX11_rounds_44 ?_
      refine va_getN (host := "OffTheLead") (D := (dC, dI)) (ci := 5) (v := .ref (A (36 + 20 * 1 + 4))) (C := RX4) (T := TX4) (N := 12) hx hb hts ii_X11_rounds_X4 hown hK hP (36 + 20 * 1) (xw_is (r := (36 + 20 * 1)) (by omega) (xc_pk (i := 1) (o := 0) (by omega) (by omega))) rfl 3 (by decide) (va_Nw.use rfl (nf_X11_140 hEv)) (fun _ hh => hh) rfl dX11_rounds_47 ?_
      refine lv_iload_n hx hb dX11_rounds_50 rfl (lv_at hl 0 rfl) ?_
      refine va_aldq hx hb hK hP (36 + 20 * 1 + 4) (36 + 20 * 1 + 4) (xw_is (r := (36 + 20 * 1 + 4)) (by omega) (xc_pk (i := 1) (o := 4) (by omega) (by omega))) (xt_is (r := (36 + 20 * 1 + 4)) (by omega) ((xty_pk (i := 1) (o := 4) (by omega)).trans rfl)) (i := (nI k10)) (vp_in_nI (by omega) (by decide)) dX11_rounds_51 ?_
      refine zz_topq (r := some (A (36 + 20 * 1 + (6 + k10)))) (by rw [nI_clamp (by omega)]; exact congrArg some (congrArg A (by omega))) ?_
      refine va_getN (host := "OffTheLead") (D := (dC, dI)) (ci := 7) (v := .int (st11 (36 + 20 * 1 + (6 + k10)) 1)) (C := RX6) (T := TX6) (N := 9) hx hb hts ii_X11_rounds_X6 hown hK hP (36 + 20 * 1 + (6 + k10)) (xw_is (r := (36 + 20 * 1 + (6 + k10))) (by omega) (xc_person (i := 1) (p := k10) (by omega) (by omega))) rfl 1 (by decide) (va_Nw.use rfl (nf_X11_144 hEv)) (fun _ hh => hh) rfl dX11_rounds_52 ?_
      obtain ⟨n23, hn23, en23⟩ := hG.1.at (r := (36 + 20 * 1 + (6 + k10))) (k := 1) (b := 5) ((xrg_pe (i := 1) (p := k10) (by omega)).trans (by decide)) (by decide)
      refine zz_top (v := nI n23) (by exact en23) ?_
      refine lv_goto (tgt := 59) hx hb dX11_rounds_55 (by decide) ?_
      refine va_iast hx hb hK hP (xD hN _ _ _ _ _ _) hS 16 16 (xw_is (r := 16) (by omega) (xc_fix (r := 16) (by omega))) (xt_is (r := 16) (by omega) rfl) (i := (nI k10)) (vp_in_nI (by omega) (by decide)) dX11_rounds_59 (fun H locs hP _ hS => ?_)
      rw [nI_clamp (by omega)] at hP
      have hP : va_P (dC, dI) vwCl (xw A C nb (up2 st11 16 k10 (nI n23)) sl12 so) H := by rw [← xset (r := 16) (k := k10) (v := (nI n23)) (xc_fix (r := 16) (by omega))]; exact hP
      obtain ⟨st24, est24⟩ : ∃ y, y = up2 st11 16 k10 (nI n23) := ⟨_, rfl⟩
      have hG : XG [1, 2, 4, 5, 13, 15, 12, 14] st st24 := by rw [est24]; exact hG.up (xz (r := 16) (k := k10) (by unfold xrg; rfl : xrg 16 k10 = 0)) (xpn (c := 0) (by unfold xcl; rfl : xcl 16 k10 = 0) (by decide))
      rw [← est24] at hP
      have hni : NI st sl st24 sl12 := by rw [est24]; exact hni.up (fun q9 a9 h9 => by omega) (by omega)
      refine lv_iinc (v := (nI (k10 + 1))) (lv' := [(2, .int (nI (k10 + 1))), (1, .int r6), (0, .ref (A 0))]) hx hb dX11_rounds_60 hl (k := 0) rfl (nI_add k10 1) (by decide) rfl (fun ls hl => ?_)
      refine lv_goto (tgt := 21) hx hb dX11_rounds_63 (by decide) ?_
      exact ih16 (9 - (k10 + 1)) _ _ _ _ (by omega) ⟨(k10 + 1), st24, sl12, rfl, by omega, by omega, hni, hP, hG, hS, lv_sub hl [0, 1, 2] rfl, rfl⟩
    · refine lv_if_eq (tgt := 58) hx hb dX11_rounds_40 (by decide) (fun _ => ?_) (fun cc => absurd (by decide) cc)
      refine lv_iconst (v := (-1)) hx hb dX11_rounds_58 (by decide) ?_
      refine va_iast hx hb hK hP (xD hN _ _ _ _ _ _) hS 16 16 (xw_is (r := 16) (by omega) (xc_fix (r := 16) (by omega))) (xt_is (r := 16) (by omega) rfl) (i := (nI k10)) (vp_in_nI (by omega) (by decide)) dX11_rounds_59 (fun H locs hP _ hS => ?_)
      rw [nI_clamp (by omega)] at hP
      have hP : va_P (dC, dI) vwCl (xw A C nb (up2 st11 16 k10 (-1)) sl12 so) H := by rw [← xset (r := 16) (k := k10) (v := (-1)) (xc_fix (r := 16) (by omega))]; exact hP
      obtain ⟨st25, est25⟩ : ∃ y, y = up2 st11 16 k10 (-1) := ⟨_, rfl⟩
      have hG : XG [1, 2, 4, 5, 13, 15, 12, 14] st st25 := by rw [est25]; exact hG.up (xz (r := 16) (k := k10) (by unfold xrg; rfl : xrg 16 k10 = 0)) (xpn (c := 0) (by unfold xcl; rfl : xcl 16 k10 = 0) (by decide))
      rw [← est25] at hP
      have hni : NI st sl st25 sl12 := by rw [est25]; exact hni.up (fun q9 a9 h9 => by omega) (by omega)
      refine lv_iinc (v := (nI (k10 + 1))) (lv' := [(2, .int (nI (k10 + 1))), (1, .int r6), (0, .ref (A 0))]) hx hb dX11_rounds_60 hl (k := 0) rfl (nI_add k10 1) (by decide) rfl (fun ls hl => ?_)
      refine lv_goto (tgt := 21) hx hb dX11_rounds_63 (by decide) ?_
      exact ih16 (9 - (k10 + 1)) _ _ _ _ (by omega) ⟨(k10 + 1), st25, sl12, rfl, by omega, by omega, hni, hP, hG, hS, lv_sub hl [0, 1, 2] rfl, rfl⟩
set_option maxHeartbeats 4000000 in
set_option maxRecDepth 100000 in
theorem x_X11_parted (l : Launch) (dC : Nat → ClassId) (dI : Nat → Nat → Nat) (ad : Nat → Nat) (E : EP) (hEE : EC ad E) (A : Nat → Nat) (C : Nat → ClassId) (nb sz : Nat) (hN : XN A) (st : Nat → Nat → Int32) (sl : Nat → Nat → Int64) (so : Nat → XR) (va : Int32) (hI : XI st) : Met l yX11_parted wsX11_parted ({ frames := 0, cells := 0, slots := 0, locals := 0 }) (va_Pc [.ref (A 0), .int va] (xPre E dC dI A C nb sz st sl so)) (va_Qi (fun (r : Int32) (x : XT) => XG [1, 2, 4, 5, 13, 15, 7, 12, 14] st x.1 ∧ LGq sl x.2.1 ∧ x.2.2 = so ∧ (True)) (xB dC dI A C nb) (XA A sz)) 0 0 (XA A sz) := by
  refine Met.ofW (cc := cX11_parted) (maxL := 2) (ret := (some .int)) (by decide) rfl ?_
  intro p e s m args below meth c s₁ B hml hv
  obtain ⟨rfl, hsz, hP, hK, hE⟩ := hv
  have hx := B.exec
  have hb := B.bytes
  have hr := B.returns
  have hts := atoms_spec (ws := wsX11_parted) B.pre
  have hown : s.vm.findClass RX11 = some m.cls := findClass_of_methodNamed B.named
  subst hsz
  have hEv := hEE.1 _ _ _ hE
  have hS : va_S (XA A s.heap.size) s.heap s.heap [] := va_S.rf
  have hG : XG [1, 2, 4, 5, 13, 15, 7, 12, 14] st st := XG.rf hI
  have hl := lv_entry ([.ref (A 0), .int va]) (n := 2) (Nat.le_of_ble_eq_true rfl)
  rw [lg_entry_eq]
  generalize (lg_sl ([.ref (A 0), .int va]) ++ List.replicate (2 - (lg_sl ([.ref (A 0), .int va])).length) Slot.unset).toArray = ls at hl ⊢
  have hl : lv_has ls 2 [(0, .ref (A 0)), (1, .int va)] := hl
  have hL : LGq sl sl := LGq.rf
  refine lv_iload_n hx hb dX11_parted_0 rfl (lv_at hl 1 rfl) ?_
  refine lv_if_lt (tgt := 19) hx hb dX11_parted_1 (by decide) (fun c1 => ?_) (fun c1 => ?_)
  · refine lv_iconst (v := (-1)) hx hb dX11_parted_19 (by decide) ?_
    exact W.iret (v := (-1)) hx hb hr (fun t ht hW => ⟨⟨(-1), (st, sl, so), rfl, ⟨hG, hL, rfl, trivial⟩, xB.of ht hP⟩, hS.F ht⟩) hS.2.2 dX11_parted_20
  · obtain ⟨jn1, hjn1, rfl⟩ := nI_of c1
    refine lv_iload_n hx hb dX11_parted_4 rfl (lv_at hl 1 rfl) ?_
    refine lv_bipush (v := 8) hx hb dX11_parted_5 (by decide) ?_
    refine lv_icmp_ge (tgt := 19) hx hb dX11_parted_7 (by decide) (fun c2 => ?_) (fun c2 => ?_)
    · have c2 : 8 ≤ jn1 := (nI_leI (a := 8) (b := jn1) (by omega) (by omega)).mp c2
      refine lv_iconst (v := (-1)) hx hb dX11_parted_19 (by decide) ?_
      exact W.iret (v := (-1)) hx hb hr (fun t ht hW => ⟨⟨(-1), (st, sl, so), rfl, ⟨hG, hL, rfl, trivial⟩, xB.of ht hP⟩, hS.F ht⟩) hS.2.2 dX11_parted_20
    · have c2 : ¬ 8 ≤ jn1 := fun hh => c2 ((nI_leI (a := 8) (b := jn1) (by omega) (by omega)).mpr hh)
      refine lv_aload_n hx hb dX11_parted_10 rfl (lv_at hl 0 rfl) ?_
      refine va_get (D := (dC, dI)) (ci := 10) (v := .ref (A 16)) (C := RX11) (T := TX11) (N := 19) hx hb hts ii_X11_parted_X11 hown hK hP 0 (xw_is (r := 0) (by omega) (xc_fix (r := 0) (by omega))) rfl 12 (by decide) (hts _ mm_X11_parted_1) (fun _ hh => hh) rfl dX11_parted_11 ?_
      refine lv_iload_n hx hb dX11_parted_14 rfl (lv_at hl 1 rfl) ?_
      refine va_iald hx hb hK hP 16 16 (xw_is (r := 16) (by omega) (xc_fix (r := 16) (by omega))) (xt_is (r := 16) (by omega) rfl) (i := (nI jn1)) (vp_in_nI (by omega) (by decide)) dX11_parted_15 ?_
      obtain ⟨z2, ez2⟩ : ∃ y : Int32, st 16 jn1 = y := ⟨_, rfl⟩
      refine zz_top (v := z2) (by rw [nI_clamp (by omega)]; exact ez2) ?_
      refine lv_goto (tgt := 20) hx hb dX11_parted_16 (by decide) ?_
      exact W.iret (v := z2) hx hb hr (fun t ht hW => ⟨⟨z2, (st, sl, so), rfl, ⟨hG, hL, rfl, trivial⟩, xB.of ht hP⟩, hS.F ht⟩) hS.2.2 dX11_parted_20
set_option maxHeartbeats 4000000 in
set_option maxRecDepth 100000 in
theorem x_X11_partedGood (l : Launch) (dC : Nat → ClassId) (dI : Nat → Nat → Nat) (ad : Nat → Nat) (E : EP) (hEE : EC ad E) (A : Nat → Nat) (C : Nat → ClassId) (nb sz : Nat) (hN : XN A) (st : Nat → Nat → Int32) (sl : Nat → Nat → Int64) (so : Nat → XR) (hI : XI st) : Met l yX11_partedGood wsX11_partedGood ({ frames := 0, cells := 0, slots := 0, locals := 0 }) (va_Pc [.ref (A 0)] (xPre E dC dI A C nb sz st sl so)) (va_Qi (fun (r : Int32) (x : XT) => XG [1, 2, 4, 5, 13, 15, 7, 12, 14] st x.1 ∧ LGq sl x.2.1 ∧ x.2.2 = so ∧ (True)) (xB dC dI A C nb) (XA A sz)) 0 0 (XA A sz) := by
  refine Met.ofW (cc := cX11_partedGood) (maxL := 1) (ret := (some .int)) (by decide) rfl ?_
  intro p e s m args below meth c s₁ B hml hv
  obtain ⟨rfl, hsz, hP, hK, hE⟩ := hv
  have hx := B.exec
  have hb := B.bytes
  have hr := B.returns
  have hts := atoms_spec (ws := wsX11_partedGood) B.pre
  have hown : s.vm.findClass RX11 = some m.cls := findClass_of_methodNamed B.named
  subst hsz
  have hEv := hEE.1 _ _ _ hE
  have hS : va_S (XA A s.heap.size) s.heap s.heap [] := va_S.rf
  have hG : XG [1, 2, 4, 5, 13, 15, 7, 12, 14] st st := XG.rf hI
  have hl := lv_entry ([.ref (A 0)]) (n := 1) (Nat.le_of_ble_eq_true rfl)
  rw [lg_entry_eq]
  generalize (lg_sl ([.ref (A 0)]) ++ List.replicate (1 - (lg_sl ([.ref (A 0)])).length) Slot.unset).toArray = ls at hl ⊢
  have hl : lv_has ls 1 [(0, .ref (A 0))] := hl
  have hL : LGq sl sl := LGq.rf
  refine lv_aload_n hx hb dX11_partedGood_0 rfl (lv_at hl 0 rfl) ?_
  refine va_get (D := (dC, dI)) (ci := 10) (v := .int (st 0 15)) (C := RX11) (T := TX11) (N := 19) hx hb hts ii_X11_partedGood_X11 hown hK hP 0 (xw_is (r := 0) (by omega) (xc_fix (r := 0) (by omega))) rfl 15 (by decide) (hts _ mm_X11_partedGood_1) (fun _ hh => hh) rfl dX11_partedGood_1 ?_
  obtain ⟨z1, ez1⟩ : ∃ y : Int32, st 0 15 = y := ⟨_, rfl⟩
  refine zz_top (v := z1) (by exact ez1) ?_
  exact W.iret (v := z1) hx hb hr (fun t ht hW => ⟨⟨z1, (st, sl, so), rfl, ⟨hG, hL, rfl, trivial⟩, xB.of ht hP⟩, hS.F ht⟩) hS.2.2 dX11_partedGood_4
