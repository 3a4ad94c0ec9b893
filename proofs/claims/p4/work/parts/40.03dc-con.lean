set_option maxHeartbeats 4000000 in
set_option maxRecDepth 100000 in
theorem m_passDays (l : Launch) (dC : Nat → ClassId) (dI : Nat → Nat → Nat) (ar : Nat → Nat) (cy : Nat → ClassId) (sz : Nat) (hN : MN ar) (st : Nat → Nat → Int32) (sl : Nat → Nat → Int64) (va : Int32) (vb : Int32) (hI : MI st) : Met l yX12_passDays wsX12_passDays ({ frames := 6, cells := 0, slots := 0, locals := 135 }) (va_Pc [.ref (ar 0), .int va, .int vb] (mPre dC dI ar cy sz st sl)) (va_Qi (fun (r : Int32) (x : MT) => MG [1, 2, 3, 4, 5, 6, 7, 8, 9, 10, 11, 12, 13, 14, 15, 16, 17, 19, 20] st x.1 ∧ (True)) (mB dC dI ar cy) (MA ar sz)) 0 0 (MA ar sz) := by
  refine Met.ofW (cc := cX12_passDays) (maxL := 5) (ret := (some .int)) (by decide) rfl ?_
  intro p e s m args below meth c s₁ B hml hv
  obtain ⟨rfl, hsz, hP, hK⟩ := hv
  have hx := B.exec
  have hb := B.bytes
  have hr := B.returns
  have hts := atoms_spec (ws := wsX12_passDays) B.pre
  have hown : s.vm.findClass RX12 = some m.cls := findClass_of_methodNamed B.named
  subst hsz
  have hS : va_S (MA ar s.heap.size) s.heap s.heap [] := va_S.rf
  have hG : MG [1, 2, 3, 4, 5, 6, 7, 8, 9, 10, 11, 12, 13, 14, 15, 16, 17, 19, 20] st st := MG.rf hI
  have hl := lv_entry ([.ref (ar 0), .int va, .int vb]) (n := 5) (Nat.le_of_ble_eq_true rfl)
  rw [lg_entry_eq]
  generalize (lg_sl ([.ref (ar 0), .int va, .int vb]) ++ List.replicate (5 - (lg_sl ([.ref (ar 0), .int va, .int vb])).length) Slot.unset).toArray = ls at hl ⊢
  have hl : lv_has ls 5 [(0, .ref (ar 0)), (1, .int va), (2, .int vb)] := hl
  clear hI
  refine lv_aload_n hx hb dX12_passDays_0 rfl (lv_at hl 0 rfl) ?_
  refine lv_iload_n hx hb dX12_passDays_1 rfl (lv_at hl 2 rfl) ?_
  refine va_put (D := (dC, dI)) (ci := 11) (v := .int vb) (ty := .int) (C := RX12) (T := TX12) (N := 47) hx hb hts ii_X12_passDays tyX12 tyX12_ok nmX12 hown hK hP (mD hN _ _ _ _) hS 0 rfl rfl 25 (by decide) (hts _ mm_X12_passDays_1) (fun _ hh => hh) rfl (by decide +kernel) rfl rfl (Nat.le_of_ble_eq_true rfl) dX12_passDays_2 (fun H locs hP _ hS => ?_)
  have hP : va_P (dC, dI) vwCl (mw ar cy (up2 st 0 25 vb) sl) H := hP
  obtain ⟨st1, hP, hG⟩ : ∃ y, va_P (dC, dI) vwCl (mw ar cy y sl) H ∧ MG [1, 2, 3, 4, 5, 6, 7, 8, 9, 10, 11, 12, 13, 14, 15, 16, 17, 19, 20] st y := ⟨up2 st 0 25 vb, hP, hG.up (rz (by decide : mr 0 25 = 0)) (pn (by decide : pcl 0 25 = 0) (by decide))⟩
  refine lv_iload_n hx hb dX12_passDays_5 rfl (lv_at hl 1 rfl) ?_
  refine lv_sipush (v := 400) hx hb dX12_passDays_6 (by decide) ?_
  refine lv_aload_n hx hb dX12_passDays_9 rfl (lv_at hl 0 rfl) ?_
  refine va_get (D := (dC, dI)) (ci := 11) (v := .ref (ar 2)) (C := RX12) (T := TX12) (N := 47) hx hb hts ii_X12_passDays hown hK hP 0 rfl rfl 14 (by decide) (hts _ mm_X12_passDays_2) (fun _ hh => hh) rfl dX12_passDays_10 ?_
  refine lv_bipush (v := 61) hx hb dX12_passDays_13 (by decide) ?_
  refine va_iald hx hb hK hP 2 1 rfl rfl (i := 61) (zz_in (by decide)) dX12_passDays_15 ?_
  refine lv_topi (fun z2 ez2 => ?_)
  clear ez2
  refine lv_isub hx hb dX12_passDays_16 ?_
  refine lv_topi (fun z3 ez3 => ?_)
  clear ez3
  refine va_calli (va_runS (As := [.int va, .int z3]) (rest := []) ⟨hx, hb, hml, hown, hts⟩ (m_least l dC dI ar cy _ hN st1 sl va z3  hG.1) (va_cwS 2 hts gX12_passDays_X12_least rfl rfl rfl (by decide +kernel) ⟨Nat.le_of_ble_eq_true rfl, Nat.le_of_ble_eq_true rfl⟩) ⟨fun a U g mk q => ⟨q.1, mPre.blind q.2⟩, fun U hU hW => ⟨rfl, mPre.of hP hK hU hW⟩⟩ rfl rfl hl.1 rfl (lv_room (Nat.le_of_ble_eq_true rfl)) dX12_passDays_17 ⟨Nat.le_of_ble_eq_true rfl, Nat.le_of_ble_eq_true rfl⟩) hS (fun q _ h => MA.le hS.1 q h) (MA.le hS.1) (fun r4 x t H locs ht hvm hw hB _ _ hS => ?_)
  have hP := mB.at ht hB
  clear hB ht hvm
  obtain ⟨rfl, hw⟩ := hw
  have hP : va_P (dC, dI) vwCl (mw ar cy st1 sl) _ := hP
  clear hw
  refine lv_istore_n (lv' := [(3, .int r4), (0, .ref (ar 0)), (1, .int va), (2, .int vb)]) hx hb dX12_passDays_20 rfl hl (by decide) rfl (fun ls hl => ?_)
  refine lv_iconst (v := 0) hx hb dX12_passDays_21 (by decide) ?_
  refine lv_istore (lv' := [(4, .int 0), (3, .int r4), (0, .ref (ar 0)), (1, .int va), (2, .int vb)]) hx hb dX12_passDays_22 hl (by decide) rfl (fun ls hl => ?_)
  refine zz_wf (fun n stk H locs ls => ∃ k5 : Nat, ∃ st6 : Nat → Nat → Int32, ∃ sl7 : Nat → Nat → Int64, n = (r4.toInt - k5).toNat ∧ 0 ≤ k5 ∧ k5 < 2147483648 ∧ va_P (dC, dI) vwCl (mw ar cy st6 sl7) H ∧ MG [1, 2, 3, 4, 5, 6, 7, 8, 9, 10, 11, 12, 13, 14, 15, 16, 17, 19, 20] st st6 ∧ va_S (MA ar s.heap.size) s.heap H locs ∧ lv_has ls 5 [(4, .int (nI k5)), (3, .int r4), (0, .ref (ar 0)), (1, .int va), (2, .int vb)] ∧ stk = []) ?_ ((r4.toInt - 0).toNat) _ _ _ _ ⟨0, st1, sl, rfl, by omega, by omega, hP, hG, hS, lv_sub hl [0, 1, 2, 3, 4] rfl, rfl⟩
  rintro nn stk H locs ls ⟨k5, st6, sl7, hm9, hv8_0, hv9_1, hP, hG, hS, hl, rfl⟩ ih10
  refine lv_iload hx hb dX12_passDays_24 (lv_at hl 0 rfl) ?_
  refine lv_iload_n hx hb dX12_passDays_26 rfl (lv_at hl 1 rfl) ?_
  refine lv_icmp_ge (tgt := 40) hx hb dX12_passDays_27 (by decide) (fun c1 => ?_) (fun c1 => ?_)
  · refine lv_iload_n hx hb dX12_passDays_40 rfl (lv_at hl 1 rfl) ?_
    exact W.iret (v := r4) hx hb hr (fun t ht hW => ⟨⟨r4, (st6, sl7), rfl, ⟨hG, trivial⟩, mB.of ht hP⟩, hS.F ht⟩) hS.2.2 dX12_passDays_41
  · have hqc1 := zz_ltany c1 (by omega)
    refine lv_aload_n hx hb dX12_passDays_30 rfl (lv_at hl 2 rfl) ?_
    refine va_callv (va_runV (As := []) (rest := []) ⟨hx, hb, hml, hown, hts⟩ (m_oneDay l dC dI ar cy _ hN st6 sl7  hG.1) (cwV 0 hts gX12_passDays_X12_oneDay rfl rfl rfl (by decide +kernel) ⟨Nat.le_of_ble_eq_true rfl, Nat.le_of_ble_eq_true rfl⟩) ⟨fun a U g mk q => ⟨q.1, mPre.blind q.2⟩, va_recv hK hP (ci := 11) (q0 := 0) rfl rfl, fun U hU hW => ⟨rfl, mPre.of hP hK hU hW⟩⟩ rfl rfl hl.1 rfl (lv_room (Nat.le_of_ble_eq_true rfl)) dX12_passDays_31 ⟨Nat.le_of_ble_eq_true rfl, Nat.le_of_ble_eq_true rfl⟩) hS (fun q _ h => MA.le hS.1 q h) (MA.le hS.1) (fun x t H locs ht hvm hw hB _ _ hS => ?_)
    have hP := mB.at ht hB
    clear hB ht hvm
    obtain ⟨st12, sl13⟩ := x
    obtain ⟨hG2, hw⟩ := hw
    have hP : va_P (dC, dI) vwCl (mw ar cy st12 sl13) _ := hP
    have hG : MG [1, 2, 3, 4, 5, 6, 7, 8, 9, 10, 11, 12, 13, 14, 15, 16, 17, 19, 20] st st12 := hG.tr hG2 (by decide)
    clear hG2
    clear hw
    refine lv_iinc (v := (nI (k5 + 1))) (lv' := [(4, .int (nI (k5 + 1))), (3, .int r4), (0, .ref (ar 0)), (1, .int va), (2, .int vb)]) hx hb dX12_passDays_34 hl (k := 0) rfl (nI_add k5 1) (by decide) rfl (fun ls hl => ?_)
    refine lv_goto (tgt := 24) hx hb dX12_passDays_37 (by decide) ?_
    exact ih10 ((r4.toInt - (k5 + 1)).toNat) _ _ _ _ (by omega) ⟨(k5 + 1), st12, sl13, rfl, by omega, by omega, hP, hG, hS, lv_sub hl [0, 1, 2, 3, 4] rfl, rfl⟩
set_option maxHeartbeats 4000000 in
set_option maxRecDepth 100000 in
theorem m_days (l : Launch) (dC : Nat → ClassId) (dI : Nat → Nat → Nat) (ar : Nat → Nat) (cy : Nat → ClassId) (sz : Nat) (hN : MN ar) (st : Nat → Nat → Int32) (sl : Nat → Nat → Int64) (va : Int32) (vb : Int32) (hI : MI st) : Met l yX12_days wsX12_days ({ frames := 7, cells := 0, slots := 0, locals := 159 }) (va_Pc [.ref (ar 0), .int va, .int vb] (mPre dC dI ar cy sz st sl)) (va_Qi (fun (r : Int32) (x : MT) => MG [1, 2, 3, 4, 5, 6, 7, 8, 9, 10, 11, 12, 13, 14, 15, 16, 17, 19, 20] st x.1 ∧ (True)) (mB dC dI ar cy) (MA ar sz)) 0 0 (MA ar sz) := by
  refine Met.ofW (cc := cX12_days) (maxL := 3) (ret := (some .int)) (by decide) rfl ?_
  intro p e s m args below meth c s₁ B hml hv
  obtain ⟨rfl, hsz, hP, hK⟩ := hv
  have hx := B.exec
  have hb := B.bytes
  have hr := B.returns
  have hts := atoms_spec (ws := wsX12_days) B.pre
  have hown : s.vm.findClass RX12 = some m.cls := findClass_of_methodNamed B.named
  subst hsz
  have hS : va_S (MA ar s.heap.size) s.heap s.heap [] := va_S.rf
  have hG : MG [1, 2, 3, 4, 5, 6, 7, 8, 9, 10, 11, 12, 13, 14, 15, 16, 17, 19, 20] st st := MG.rf hI
  have hl := lv_entry ([.ref (ar 0), .int va, .int vb]) (n := 3) (Nat.le_of_ble_eq_true rfl)
  rw [lg_entry_eq]
  generalize (lg_sl ([.ref (ar 0), .int va, .int vb]) ++ List.replicate (3 - (lg_sl ([.ref (ar 0), .int va, .int vb])).length) Slot.unset).toArray = ls at hl ⊢
  have hl : lv_has ls 3 [(0, .ref (ar 0)), (1, .int va), (2, .int vb)] := hl
  clear hI
  refine lv_aload_n hx hb dX12_days_0 rfl (lv_at hl 0 rfl) ?_
  refine lv_iconst (v := 0) hx hb dX12_days_1 (by decide) ?_
  refine va_put (D := (dC, dI)) (ci := 11) (v := .int 0) (ty := .int) (C := RX12) (T := TX12) (N := 47) hx hb hts ii_X12_days tyX12 tyX12_ok nmX12 hown hK hP (mD hN _ _ _ _) hS 0 rfl rfl 0 (by decide) (hts _ mm_X12_days_1) (fun _ hh => hh) rfl (by decide +kernel) rfl rfl (Nat.le_of_ble_eq_true rfl) dX12_days_2 (fun H locs hP _ hS => ?_)
  have hP : va_P (dC, dI) vwCl (mw ar cy (up2 st 0 0 0) sl) H := hP
  obtain ⟨st1, hP, hG⟩ : ∃ y, va_P (dC, dI) vwCl (mw ar cy y sl) H ∧ MG [1, 2, 3, 4, 5, 6, 7, 8, 9, 10, 11, 12, 13, 14, 15, 16, 17, 19, 20] st y := ⟨up2 st 0 0 0, hP, hG.up (rz (by decide : mr 0 0 = 0)) (pn (by decide : pcl 0 0 = 0) (by decide))⟩
  refine lv_iload_n hx hb dX12_days_5 rfl (lv_at hl 1 rfl) ?_
  refine lv_iconst (v := 1) hx hb dX12_days_6 (by decide) ?_
  refine lv_bipush (v := 30) hx hb dX12_days_7 (by decide) ?_
  refine va_calli (va_runS (As := [.int va, .int 1, .int 30]) (rest := []) ⟨hx, hb, hml, hown, hts⟩ (m_isIn l dC dI ar cy _ hN st1 sl va 1 30  hG.1) (va_cwS 3 hts gX12_days_X12_isIn rfl rfl rfl (by decide +kernel) ⟨Nat.le_of_ble_eq_true rfl, Nat.le_of_ble_eq_true rfl⟩) ⟨fun a U g mk q => ⟨q.1, mPre.blind q.2⟩, fun U hU hW => ⟨rfl, mPre.of hP hK hU hW⟩⟩ rfl rfl hl.1 rfl (lv_room (Nat.le_of_ble_eq_true rfl)) dX12_days_9 ⟨Nat.le_of_ble_eq_true rfl, Nat.le_of_ble_eq_true rfl⟩) hS (fun q _ h => MA.le hS.1 q h) (MA.le hS.1) (fun r2 x t H locs ht hvm hw hB _ _ hS => ?_)
  have hP := mB.at ht hB
  clear hB ht hvm
  obtain ⟨rfl, hw⟩ := hw
  have hP : va_P (dC, dI) vwCl (mw ar cy st1 sl) _ := hP
  rcases hw with ⟨rfl, hf3, hf4⟩ | rfl
  · obtain ⟨n5, hn5a, hn5b, rfl⟩ := zz_rng (a := 1) (b := 30) (by omega) hf3 (by omega) hf4
    refine lv_if_ne (tgt := 17) hx hb dX12_days_12 (by decide) (fun _ => ?_) (fun cc => absurd cc (by decide))
    refine lv_aload_n hx hb dX12_days_17 rfl (lv_at hl 0 rfl) ?_
    refine va_get (D := (dC, dI)) (ci := 11) (v := .ref (ar 2)) (C := RX12) (T := TX12) (N := 47) hx hb hts ii_X12_days hown hK hP 0 rfl rfl 14 (by decide) (hts _ mm_X12_days_2) (fun _ hh => hh) rfl dX12_days_18 ?_
    refine lv_bipush (v := 61) hx hb dX12_days_21 (by decide) ?_
    refine va_iald hx hb hK hP 2 1 rfl rfl (i := 61) (zz_in (by decide)) dX12_days_23 ?_
    refine lv_topi (fun z6 ez6 => ?_)
    clear ez6
    refine lv_sipush (v := 400) hx hb dX12_days_24 (by decide) ?_
    refine lv_icmp_ne (tgt := 32) hx hb dX12_days_27 (by decide) (fun c2 => ?_) (fun c2 => ?_)
    · refine lv_aload_n hx hb dX12_days_32 rfl (lv_at hl 0 rfl) ?_
      refine va_callv (va_runV (As := []) (rest := []) ⟨hx, hb, hml, hown, hts⟩ (m_snap l dC dI ar cy _ hN st1 sl  hG.1) (cwV 0 hts gX12_days_X12_snap rfl rfl rfl (by decide +kernel) ⟨Nat.le_of_ble_eq_true rfl, Nat.le_of_ble_eq_true rfl⟩) ⟨fun a U g mk q => ⟨q.1, mPre.blind q.2⟩, va_recv hK hP (ci := 11) (q0 := 0) rfl rfl, fun U hU hW => ⟨rfl, mPre.of hP hK hU hW⟩⟩ rfl rfl hl.1 rfl (lv_room (Nat.le_of_ble_eq_true rfl)) dX12_days_33 ⟨Nat.le_of_ble_eq_true rfl, Nat.le_of_ble_eq_true rfl⟩) hS (fun q _ h => MA.le hS.1 q h) (MA.le hS.1) (fun x t H locs ht hvm hw hB _ _ hS => ?_)
      have hP := mB.at ht hB
      clear hB ht hvm
      obtain ⟨st8, sl9⟩ := x
      obtain ⟨hG2, hw⟩ := hw
      have hP : va_P (dC, dI) vwCl (mw ar cy st8 sl9) _ := hP
      have hG : MG [1, 2, 3, 4, 5, 6, 7, 8, 9, 10, 11, 12, 13, 14, 15, 16, 17, 19, 20] st st8 := hG.tr hG2 (by decide)
      clear hG2
      clear hw
      refine lv_aload_n hx hb dX12_days_36 rfl (lv_at hl 0 rfl) ?_
      refine lv_iload_n hx hb dX12_days_37 rfl (lv_at hl 1 rfl) ?_
      refine lv_iload_n hx hb dX12_days_38 rfl (lv_at hl 2 rfl) ?_
      refine va_calli (va_runV (As := [.int (nI n5), .int vb]) (rest := []) ⟨hx, hb, hml, hown, hts⟩ (m_passDays l dC dI ar cy _ hN st8 sl9 (nI n5) vb  hG.1) (cwV 2 hts gX12_days_X12_passDays rfl rfl rfl (by decide +kernel) ⟨Nat.le_of_ble_eq_true rfl, Nat.le_of_ble_eq_true rfl⟩) ⟨fun a U g mk q => ⟨q.1, mPre.blind q.2⟩, va_recv hK hP (ci := 11) (q0 := 0) rfl rfl, fun U hU hW => ⟨rfl, mPre.of hP hK hU hW⟩⟩ rfl rfl hl.1 rfl (lv_room (Nat.le_of_ble_eq_true rfl)) dX12_days_39 ⟨Nat.le_of_ble_eq_true rfl, Nat.le_of_ble_eq_true rfl⟩) hS (fun q _ h => MA.le hS.1 q h) (MA.le hS.1) (fun r10 x t H locs ht hvm hw hB _ _ hS => ?_)
      have hP := mB.at ht hB
      clear hB ht hvm
      obtain ⟨st11, sl12⟩ := x
      obtain ⟨hG2, hw⟩ := hw
      have hP : va_P (dC, dI) vwCl (mw ar cy st11 sl12) _ := hP
      have hG : MG [1, 2, 3, 4, 5, 6, 7, 8, 9, 10, 11, 12, 13, 14, 15, 16, 17, 19, 20] st st11 := hG.tr hG2 (by decide)
      clear hG2
      clear hw
      exact W.iret (v := r10) hx hb hr (fun t ht hW => ⟨⟨r10, (st11, sl12), rfl, ⟨hG, trivial⟩, mB.of ht hP⟩, hS.F ht⟩) hS.2.2 dX12_days_42
    · refine lv_iconst (v := 0) hx hb dX12_days_30 (by decide) ?_
      exact W.iret (v := 0) hx hb hr (fun t ht hW => ⟨⟨0, (st1, sl), rfl, ⟨hG, trivial⟩, mB.of ht hP⟩, hS.F ht⟩) hS.2.2 dX12_days_31
  · refine lv_if_ne (tgt := 17) hx hb dX12_days_12 (by decide) (fun cc => absurd (by decide) cc) (fun _ => ?_)
    refine lv_iconst (v := (-1)) hx hb dX12_days_15 (by decide) ?_
    exact W.iret (v := (-1)) hx hb hr (fun t ht hW => ⟨⟨(-1), (st1, sl), rfl, ⟨hG, trivial⟩, mB.of ht hP⟩, hS.F ht⟩) hS.2.2 dX12_days_16
