set_option maxHeartbeats 4000000 in
set_option maxRecDepth 100000 in
theorem m_goBy (l : Launch) (dC : Nat → ClassId) (dI : Nat → Nat → Nat) (ar : Nat → Nat) (cy : Nat → ClassId) (sz : Nat) (hN : MN ar) (st : Nat → Nat → Int32) (sl : Nat → Nat → Int64) (va : Nat) (hva : va < 196) (hI : MI st) (hok : lineOK (st 14) va) : Met l yX12_goBy wsX12_goBy ({ frames := 7, cells := 0, slots := 0, locals := 159 }) (va_Pc [.ref (ar 0), .int (nI va)] (mPre dC dI ar cy sz st sl)) (va_Qi (fun (r : Int32) (x : MT) => MG [1, 2, 3, 4, 5, 6, 7, 8, 9, 10, 11, 12, 13, 14, 15, 16, 17, 19, 20, 21, 22, 23] st x.1 ∧ LQ [7, 9] sl x.2 ∧ (True)) (mB dC dI ar cy) (MA ar sz)) 0 0 (MA ar sz) := by
  refine Met.ofW (cc := cX12_goBy) (maxL := 4) (ret := (some .int)) (by decide) rfl ?_
  intro p e s m args below meth c s₁ B hml hv
  obtain ⟨rfl, hsz, hP, hK⟩ := hv
  have hx := B.exec
  have hb := B.bytes
  have hr := B.returns
  have hts := atoms_spec (ws := wsX12_goBy) B.pre
  have hown : s.vm.findClass RX12 = some m.cls := findClass_of_methodNamed B.named
  subst hsz
  have hS : va_S (MA ar s.heap.size) s.heap s.heap [] := va_S.rf
  have hG : MG [1, 2, 3, 4, 5, 6, 7, 8, 9, 10, 11, 12, 13, 14, 15, 16, 17, 19, 20, 21, 22, 23] st st := MG.rf hI
  have hl := lv_entry ([.ref (ar 0), .int (nI va)]) (n := 4) (Nat.le_of_ble_eq_true rfl)
  rw [lg_entry_eq]
  generalize (lg_sl ([.ref (ar 0), .int (nI va)]) ++ List.replicate (4 - (lg_sl ([.ref (ar 0), .int (nI va)])).length) Slot.unset).toArray = ls at hl ⊢
  have hl : lv_has ls 4 [(0, .ref (ar 0)), (1, .int (nI va))] := hl
  clear hI
  have hL : LQ [7, 9] sl sl := LQ.rf
  rcases hok with ⟨e0, ⟨x0, hx0, ex0⟩, u0, w0, huw, hw0, eu0, ew0⟩ | ⟨e0, x0, hx0, ex0⟩ | ⟨e0, x0, hx0, ex0⟩ | e0 | ⟨e0, ⟨x0, hx0, ex0⟩, y0, hy0, ey0⟩ | e0 | e0
  · refine lv_aload_n hx hb dX12_goBy_0 rfl (lv_at hl 0 rfl) ?_
    refine va_get (D := (dC, dI)) (ci := 11) (v := .ref (ar 14)) (C := RX12) (T := TX12) (N := 47) hx hb hts ii_X12_goBy hown hK hP 0 rfl rfl 38 (by decide) (hts _ mm_X12_goBy_1) (fun _ hh => hh) rfl dX12_goBy_1 ?_
    refine lv_iload_n hx hb dX12_goBy_4 rfl (lv_at hl 1 rfl) ?_
    refine lv_iconst (v := 1) hx hb dX12_goBy_5 (by decide) ?_
    refine lv_iadd hx hb dX12_goBy_6 ?_
    refine zz_top (v := nI (va + 1)) (nI_add va 1) ?_
    refine va_iald hx hb hK hP 14 13 rfl rfl (i := (nI (va + 1))) (vp_in_nI (by omega) (by decide)) dX12_goBy_7 ?_
    refine zz_top (v := (nI x0)) (by rw [nI_clamp (by omega)]; show st 14 (va + 1) = _; rw [ex0]) ?_
    refine lv_istore_n (lv' := [(2, .int (nI x0)), (0, .ref (ar 0)), (1, .int (nI va))]) hx hb dX12_goBy_8 rfl hl (by decide) rfl (fun ls hl => ?_)
    refine lv_aload_n hx hb dX12_goBy_9 rfl (lv_at hl 1 rfl) ?_
    refine va_get (D := (dC, dI)) (ci := 11) (v := .ref (ar 14)) (C := RX12) (T := TX12) (N := 47) hx hb hts ii_X12_goBy hown hK hP 0 rfl rfl 38 (by decide) (hts _ mm_X12_goBy_1) (fun _ hh => hh) rfl dX12_goBy_10 ?_
    refine lv_iload_n hx hb dX12_goBy_13 rfl (lv_at hl 2 rfl) ?_
    refine va_iald hx hb hK hP 14 13 rfl rfl (i := (nI va)) (vp_in_nI (by omega) (by decide)) dX12_goBy_14 ?_
    refine zz_top (v := 0) (by rw [nI_clamp (by omega)]; show st 14 va = _; rw [e0]) ?_
    refine lv_bipush (v := 6) hx hb dX12_goBy_15 (by decide) ?_
    refine lv_icmp_ne (tgt := 47) hx hb dX12_goBy_17 (by decide) (fun _ => ?_) (fun cc => absurd cc (by decide))
    refine lv_aload_n hx hb dX12_goBy_47 rfl (lv_at hl 1 rfl) ?_
    refine lv_aload_n hx hb dX12_goBy_48 rfl (lv_at hl 1 rfl) ?_
    refine va_get (D := (dC, dI)) (ci := 11) (v := .ref (ar 14)) (C := RX12) (T := TX12) (N := 47) hx hb hts ii_X12_goBy hown hK hP 0 rfl rfl 38 (by decide) (hts _ mm_X12_goBy_1) (fun _ hh => hh) rfl dX12_goBy_49 ?_
    refine lv_iload_n hx hb dX12_goBy_52 rfl (lv_at hl 2 rfl) ?_
    refine va_iald hx hb hK hP 14 13 rfl rfl (i := (nI va)) (vp_in_nI (by omega) (by decide)) dX12_goBy_53 ?_
    refine zz_top (v := 0) (by rw [nI_clamp (by omega)]; show st 14 va = _; rw [e0]) ?_
    refine lv_iload_n hx hb dX12_goBy_54 rfl (lv_at hl 0 rfl) ?_
    refine lv_aload_n hx hb dX12_goBy_55 rfl (lv_at hl 1 rfl) ?_
    refine va_get (D := (dC, dI)) (ci := 11) (v := .ref (ar 14)) (C := RX12) (T := TX12) (N := 47) hx hb hts ii_X12_goBy hown hK hP 0 rfl rfl 38 (by decide) (hts _ mm_X12_goBy_1) (fun _ hh => hh) rfl dX12_goBy_56 ?_
    refine lv_iload_n hx hb dX12_goBy_59 rfl (lv_at hl 2 rfl) ?_
    refine lv_iconst (v := 2) hx hb dX12_goBy_60 (by decide) ?_
    refine lv_iadd hx hb dX12_goBy_61 ?_
    refine zz_top (v := nI (va + 2)) (nI_add va 2) ?_
    refine va_iald hx hb hK hP 14 13 rfl rfl (i := (nI (va + 2))) (vp_in_nI (by omega) (by decide)) dX12_goBy_62 ?_
    refine lv_topi (fun z1 ez1 => ?_)
    refine lv_aload_n hx hb dX12_goBy_63 rfl (lv_at hl 1 rfl) ?_
    refine va_get (D := (dC, dI)) (ci := 11) (v := .ref (ar 14)) (C := RX12) (T := TX12) (N := 47) hx hb hts ii_X12_goBy hown hK hP 0 rfl rfl 38 (by decide) (hts _ mm_X12_goBy_1) (fun _ hh => hh) rfl dX12_goBy_64 ?_
    refine lv_iload_n hx hb dX12_goBy_67 rfl (lv_at hl 2 rfl) ?_
    refine lv_iconst (v := 3) hx hb dX12_goBy_68 (by decide) ?_
    refine lv_iadd hx hb dX12_goBy_69 ?_
    refine zz_top (v := nI (va + 3)) (nI_add va 3) ?_
    refine va_iald hx hb hK hP 14 13 rfl rfl (i := (nI (va + 3))) (vp_in_nI (by omega) (by decide)) dX12_goBy_70 ?_
    refine zz_top (v := (nI u0)) (by rw [nI_clamp (by omega)]; show st 14 (va + 3) = _; rw [eu0]) ?_
    refine lv_aload_n hx hb dX12_goBy_71 rfl (lv_at hl 1 rfl) ?_
    refine va_get (D := (dC, dI)) (ci := 11) (v := .ref (ar 14)) (C := RX12) (T := TX12) (N := 47) hx hb hts ii_X12_goBy hown hK hP 0 rfl rfl 38 (by decide) (hts _ mm_X12_goBy_1) (fun _ hh => hh) rfl dX12_goBy_72 ?_
    refine lv_iload_n hx hb dX12_goBy_75 rfl (lv_at hl 2 rfl) ?_
    refine lv_iconst (v := 4) hx hb dX12_goBy_76 (by decide) ?_
    refine lv_iadd hx hb dX12_goBy_77 ?_
    refine zz_top (v := nI (va + 4)) (nI_add va 4) ?_
    refine va_iald hx hb hK hP 14 13 rfl rfl (i := (nI (va + 4))) (vp_in_nI (by omega) (by decide)) dX12_goBy_78 ?_
    refine zz_top (v := (nI w0)) (by rw [nI_clamp (by omega)]; show st 14 (va + 4) = _; rw [ew0]) ?_
    refine va_calli (va_runV (As := [.int 0, .int (nI x0), .int z1, .int (nI u0), .int (nI w0)]) (rest := []) ⟨hx, hb, hml, hown, hts⟩ (m_why0 l dC dI ar cy _ hN st sl x0 z1 (nI u0) (nI w0) (by omega) hG.1) (cwV 5 hts gX12_goBy_X12_why rfl rfl rfl (by decide +kernel) ⟨Nat.le_of_ble_eq_true rfl, Nat.le_of_ble_eq_true rfl⟩) ⟨fun a U g mk q => ⟨q.1, mPre.blind q.2⟩, va_recv hK hP (ci := 11) (q0 := 0) rfl rfl, fun U hU hW => ⟨rfl, mPre.of hP hK hU hW⟩⟩ rfl rfl hl.1 rfl (lv_room (Nat.le_of_ble_eq_true rfl)) dX12_goBy_79 ⟨Nat.le_of_ble_eq_true rfl, Nat.le_of_ble_eq_true rfl⟩) hS (fun q _ h => MA.le hS.1 q h) (MA.le hS.1) (fun r2 x t H locs ht hvm hw hB _ _ hS => ?_)
    have hP := mB.at ht hB
    clear hB ht hvm
    obtain ⟨rfl, hw⟩ := hw
    have hP : va_P (dC, dI) vwCl (mw ar cy st sl) _ := hP
    clear hw
    refine lv_istore_n (lv' := [(3, .int r2), (2, .int (nI x0)), (0, .ref (ar 0)), (1, .int (nI va))]) hx hb dX12_goBy_82 rfl hl (by decide) rfl (fun ls hl => ?_)
    refine lv_iload_n hx hb dX12_goBy_83 rfl (lv_at hl 0 rfl) ?_
    refine lv_if_eq (tgt := 99) hx hb dX12_goBy_84 (by decide) (fun c2 => ?_) (fun c2 => ?_)
    · refine lv_aload_n hx hb dX12_goBy_99 rfl (lv_at hl 2 rfl) ?_
      refine lv_aload_n hx hb dX12_goBy_100 rfl (lv_at hl 2 rfl) ?_
      refine va_get (D := (dC, dI)) (ci := 11) (v := .ref (ar 14)) (C := RX12) (T := TX12) (N := 47) hx hb hts ii_X12_goBy hown hK hP 0 rfl rfl 38 (by decide) (hts _ mm_X12_goBy_1) (fun _ hh => hh) rfl dX12_goBy_101 ?_
      refine lv_iload_n hx hb dX12_goBy_104 rfl (lv_at hl 3 rfl) ?_
      refine va_iald hx hb hK hP 14 13 rfl rfl (i := (nI va)) (vp_in_nI (by omega) (by decide)) dX12_goBy_105 ?_
      refine zz_top (v := 0) (by rw [nI_clamp (by omega)]; show st 14 va = _; rw [e0]) ?_
      refine lv_iload_n hx hb dX12_goBy_106 rfl (lv_at hl 1 rfl) ?_
      refine lv_aload_n hx hb dX12_goBy_107 rfl (lv_at hl 2 rfl) ?_
      refine va_get (D := (dC, dI)) (ci := 11) (v := .ref (ar 14)) (C := RX12) (T := TX12) (N := 47) hx hb hts ii_X12_goBy hown hK hP 0 rfl rfl 38 (by decide) (hts _ mm_X12_goBy_1) (fun _ hh => hh) rfl dX12_goBy_108 ?_
      refine lv_iload_n hx hb dX12_goBy_111 rfl (lv_at hl 3 rfl) ?_
      refine lv_iconst (v := 2) hx hb dX12_goBy_112 (by decide) ?_
      refine lv_iadd hx hb dX12_goBy_113 ?_
      refine zz_top (v := nI (va + 2)) (nI_add va 2) ?_
      refine va_iald hx hb hK hP 14 13 rfl rfl (i := (nI (va + 2))) (vp_in_nI (by omega) (by decide)) dX12_goBy_114 ?_
      refine lv_topi (fun z3 ez3 => ?_)
      refine lv_aload_n hx hb dX12_goBy_115 rfl (lv_at hl 2 rfl) ?_
      refine va_get (D := (dC, dI)) (ci := 11) (v := .ref (ar 14)) (C := RX12) (T := TX12) (N := 47) hx hb hts ii_X12_goBy hown hK hP 0 rfl rfl 38 (by decide) (hts _ mm_X12_goBy_1) (fun _ hh => hh) rfl dX12_goBy_116 ?_
      refine lv_iload_n hx hb dX12_goBy_119 rfl (lv_at hl 3 rfl) ?_
      refine lv_iconst (v := 3) hx hb dX12_goBy_120 (by decide) ?_
      refine lv_iadd hx hb dX12_goBy_121 ?_
      refine zz_top (v := nI (va + 3)) (nI_add va 3) ?_
      refine va_iald hx hb hK hP 14 13 rfl rfl (i := (nI (va + 3))) (vp_in_nI (by omega) (by decide)) dX12_goBy_122 ?_
      refine zz_top (v := (nI u0)) (by rw [nI_clamp (by omega)]; show st 14 (va + 3) = _; rw [eu0]) ?_
      refine lv_aload_n hx hb dX12_goBy_123 rfl (lv_at hl 2 rfl) ?_
      refine va_get (D := (dC, dI)) (ci := 11) (v := .ref (ar 14)) (C := RX12) (T := TX12) (N := 47) hx hb hts ii_X12_goBy hown hK hP 0 rfl rfl 38 (by decide) (hts _ mm_X12_goBy_1) (fun _ hh => hh) rfl dX12_goBy_124 ?_
      refine lv_iload_n hx hb dX12_goBy_127 rfl (lv_at hl 3 rfl) ?_
      refine lv_iconst (v := 4) hx hb dX12_goBy_128 (by decide) ?_
      refine lv_iadd hx hb dX12_goBy_129 ?_
      refine zz_top (v := nI (va + 4)) (nI_add va 4) ?_
      refine va_iald hx hb hK hP 14 13 rfl rfl (i := (nI (va + 4))) (vp_in_nI (by omega) (by decide)) dX12_goBy_130 ?_
      refine zz_top (v := (nI w0)) (by rw [nI_clamp (by omega)]; show st 14 (va + 4) = _; rw [ew0]) ?_
      refine va_callv (va_runV (As := [.int 0, .int (nI x0), .int z3, .int (nI u0), .int (nI w0)]) (rest := []) ⟨hx, hb, hml, hown, hts⟩ (m_live0 l dC dI ar cy _ hN st sl x0 z3 u0 w0 (by omega) (by omega) (by omega) hG.1 (by omega)) (cwV 5 hts gX12_goBy_X12_live rfl rfl rfl (by decide +kernel) ⟨Nat.le_of_ble_eq_true rfl, Nat.le_of_ble_eq_true rfl⟩) ⟨fun a U g mk q => ⟨q.1, mPre.blind q.2⟩, va_recv hK hP (ci := 11) (q0 := 0) rfl rfl, fun U hU hW => ⟨rfl, mPre.of hP hK hU hW⟩⟩ rfl rfl hl.1 rfl (lv_room (Nat.le_of_ble_eq_true rfl)) dX12_goBy_131 ⟨Nat.le_of_ble_eq_true rfl, Nat.le_of_ble_eq_true rfl⟩) hS (fun q _ h => MA.le hS.1 q h) (MA.le hS.1) (fun x t H locs ht hvm hw hB _ _ hS => ?_)
      have hP := mB.at ht hB
      clear hB ht hvm
      obtain ⟨st5, sl6⟩ := x
      obtain ⟨hG2, hL2, hw⟩ := hw
      have hL : LQ [7, 9] sl sl6 := hL.tr hL2 (by decide)
      clear hL2
      have hP : va_P (dC, dI) vwCl (mw ar cy st5 sl6) _ := hP
      have hG : MG [1, 2, 3, 4, 5, 6, 7, 8, 9, 10, 11, 12, 13, 14, 15, 16, 17, 19, 20, 21, 22, 23] st st5 := hG.tr hG2 (by decide)
      have hGst5 : MG [1, 2, 3, 4, 5, 6, 7, 8, 9, 10, 11, 12, 13, 14, 15, 16, 17, 19, 20, 21, 22, 23] st st5 := hG2
      clear hG2
      clear hw
      refine lv_iconst (v := 0) hx hb dX12_goBy_134 (by decide) ?_
      exact W.iret (v := 0) hx hb hr (fun t ht hW => ⟨⟨0, (st5, sl6), rfl, ⟨hG, hL, trivial⟩, mB.of ht hP⟩, hS.F ht⟩) hS.2.2 dX12_goBy_135
    · refine lv_bipush (v := 10) hx hb dX12_goBy_87 (by decide) ?_
      refine lv_aload_n hx hb dX12_goBy_89 rfl (lv_at hl 2 rfl) ?_
      refine va_get (D := (dC, dI)) (ci := 11) (v := .ref (ar 14)) (C := RX12) (T := TX12) (N := 47) hx hb hts ii_X12_goBy hown hK hP 0 rfl rfl 38 (by decide) (hts _ mm_X12_goBy_1) (fun _ hh => hh) rfl dX12_goBy_90 ?_
      refine lv_iload_n hx hb dX12_goBy_93 rfl (lv_at hl 3 rfl) ?_
      refine va_iald hx hb hK hP 14 13 rfl rfl (i := (nI va)) (vp_in_nI (by omega) (by decide)) dX12_goBy_94 ?_
      refine zz_top (v := 0) (by rw [nI_clamp (by omega)]; show st 14 va = _; rw [e0]) ?_
      refine lv_imul hx hb dX12_goBy_95 ?_
      refine zz_top (v := 0) (by decide) ?_
      refine lv_iload_n hx hb dX12_goBy_96 rfl (lv_at hl 0 rfl) ?_
      refine lv_iadd hx hb dX12_goBy_97 ?_
      refine lv_topi (fun z7 ez7 => ?_)
      exact W.iret (v := z7) hx hb hr (fun t ht hW => ⟨⟨z7, (st, sl), rfl, ⟨hG, hL, trivial⟩, mB.of ht hP⟩, hS.F ht⟩) hS.2.2 dX12_goBy_98
  · refine lv_aload_n hx hb dX12_goBy_0 rfl (lv_at hl 0 rfl) ?_
    refine va_get (D := (dC, dI)) (ci := 11) (v := .ref (ar 14)) (C := RX12) (T := TX12) (N := 47) hx hb hts ii_X12_goBy hown hK hP 0 rfl rfl 38 (by decide) (hts _ mm_X12_goBy_1) (fun _ hh => hh) rfl dX12_goBy_1 ?_
    refine lv_iload_n hx hb dX12_goBy_4 rfl (lv_at hl 1 rfl) ?_
    refine lv_iconst (v := 1) hx hb dX12_goBy_5 (by decide) ?_
    refine lv_iadd hx hb dX12_goBy_6 ?_
    refine zz_top (v := nI (va + 1)) (nI_add va 1) ?_
    refine va_iald hx hb hK hP 14 13 rfl rfl (i := (nI (va + 1))) (vp_in_nI (by omega) (by decide)) dX12_goBy_7 ?_
    refine zz_top (v := (nI x0)) (by rw [nI_clamp (by omega)]; show st 14 (va + 1) = _; rw [ex0]) ?_
    refine lv_istore_n (lv' := [(2, .int (nI x0)), (0, .ref (ar 0)), (1, .int (nI va))]) hx hb dX12_goBy_8 rfl hl (by decide) rfl (fun ls hl => ?_)
    refine lv_aload_n hx hb dX12_goBy_9 rfl (lv_at hl 1 rfl) ?_
    refine va_get (D := (dC, dI)) (ci := 11) (v := .ref (ar 14)) (C := RX12) (T := TX12) (N := 47) hx hb hts ii_X12_goBy hown hK hP 0 rfl rfl 38 (by decide) (hts _ mm_X12_goBy_1) (fun _ hh => hh) rfl dX12_goBy_10 ?_
    refine lv_iload_n hx hb dX12_goBy_13 rfl (lv_at hl 2 rfl) ?_
    refine va_iald hx hb hK hP 14 13 rfl rfl (i := (nI va)) (vp_in_nI (by omega) (by decide)) dX12_goBy_14 ?_
    refine zz_top (v := 1) (by rw [nI_clamp (by omega)]; show st 14 va = _; rw [e0]) ?_
    refine lv_bipush (v := 6) hx hb dX12_goBy_15 (by decide) ?_
    refine lv_icmp_ne (tgt := 47) hx hb dX12_goBy_17 (by decide) (fun _ => ?_) (fun cc => absurd cc (by decide))
    refine lv_aload_n hx hb dX12_goBy_47 rfl (lv_at hl 1 rfl) ?_
    refine lv_aload_n hx hb dX12_goBy_48 rfl (lv_at hl 1 rfl) ?_
    refine va_get (D := (dC, dI)) (ci := 11) (v := .ref (ar 14)) (C := RX12) (T := TX12) (N := 47) hx hb hts ii_X12_goBy hown hK hP 0 rfl rfl 38 (by decide) (hts _ mm_X12_goBy_1) (fun _ hh => hh) rfl dX12_goBy_49 ?_
    refine lv_iload_n hx hb dX12_goBy_52 rfl (lv_at hl 2 rfl) ?_
    refine va_iald hx hb hK hP 14 13 rfl rfl (i := (nI va)) (vp_in_nI (by omega) (by decide)) dX12_goBy_53 ?_
    refine zz_top (v := 1) (by rw [nI_clamp (by omega)]; show st 14 va = _; rw [e0]) ?_
    refine lv_iload_n hx hb dX12_goBy_54 rfl (lv_at hl 0 rfl) ?_
    refine lv_aload_n hx hb dX12_goBy_55 rfl (lv_at hl 1 rfl) ?_
    refine va_get (D := (dC, dI)) (ci := 11) (v := .ref (ar 14)) (C := RX12) (T := TX12) (N := 47) hx hb hts ii_X12_goBy hown hK hP 0 rfl rfl 38 (by decide) (hts _ mm_X12_goBy_1) (fun _ hh => hh) rfl dX12_goBy_56 ?_
    refine lv_iload_n hx hb dX12_goBy_59 rfl (lv_at hl 2 rfl) ?_
    refine lv_iconst (v := 2) hx hb dX12_goBy_60 (by decide) ?_
    refine lv_iadd hx hb dX12_goBy_61 ?_
    refine zz_top (v := nI (va + 2)) (nI_add va 2) ?_
    refine va_iald hx hb hK hP 14 13 rfl rfl (i := (nI (va + 2))) (vp_in_nI (by omega) (by decide)) dX12_goBy_62 ?_
    refine lv_topi (fun z8 ez8 => ?_)
    refine lv_aload_n hx hb dX12_goBy_63 rfl (lv_at hl 1 rfl) ?_
    refine va_get (D := (dC, dI)) (ci := 11) (v := .ref (ar 14)) (C := RX12) (T := TX12) (N := 47) hx hb hts ii_X12_goBy hown hK hP 0 rfl rfl 38 (by decide) (hts _ mm_X12_goBy_1) (fun _ hh => hh) rfl dX12_goBy_64 ?_
    refine lv_iload_n hx hb dX12_goBy_67 rfl (lv_at hl 2 rfl) ?_
    refine lv_iconst (v := 3) hx hb dX12_goBy_68 (by decide) ?_
    refine lv_iadd hx hb dX12_goBy_69 ?_
    refine zz_top (v := nI (va + 3)) (nI_add va 3) ?_
    refine va_iald hx hb hK hP 14 13 rfl rfl (i := (nI (va + 3))) (vp_in_nI (by omega) (by decide)) dX12_goBy_70 ?_
    refine lv_topi (fun z9 ez9 => ?_)
    refine lv_aload_n hx hb dX12_goBy_71 rfl (lv_at hl 1 rfl) ?_
    refine va_get (D := (dC, dI)) (ci := 11) (v := .ref (ar 14)) (C := RX12) (T := TX12) (N := 47) hx hb hts ii_X12_goBy hown hK hP 0 rfl rfl 38 (by decide) (hts _ mm_X12_goBy_1) (fun _ hh => hh) rfl dX12_goBy_72 ?_
    refine lv_iload_n hx hb dX12_goBy_75 rfl (lv_at hl 2 rfl) ?_
    refine lv_iconst (v := 4) hx hb dX12_goBy_76 (by decide) ?_
    refine lv_iadd hx hb dX12_goBy_77 ?_
    refine zz_top (v := nI (va + 4)) (nI_add va 4) ?_
    refine va_iald hx hb hK hP 14 13 rfl rfl (i := (nI (va + 4))) (vp_in_nI (by omega) (by decide)) dX12_goBy_78 ?_
    refine lv_topi (fun z10 ez10 => ?_)
    refine va_calli (va_runV (As := [.int 1, .int (nI x0), .int z8, .int z9, .int z10]) (rest := []) ⟨hx, hb, hml, hown, hts⟩ (m_why1 l dC dI ar cy _ hN st sl x0 z8 z9 z10 (by omega) hG.1) (cwV 5 hts gX12_goBy_X12_why rfl rfl rfl (by decide +kernel) ⟨Nat.le_of_ble_eq_true rfl, Nat.le_of_ble_eq_true rfl⟩) ⟨fun a U g mk q => ⟨q.1, mPre.blind q.2⟩, va_recv hK hP (ci := 11) (q0 := 0) rfl rfl, fun U hU hW => ⟨rfl, mPre.of hP hK hU hW⟩⟩ rfl rfl hl.1 rfl (lv_room (Nat.le_of_ble_eq_true rfl)) dX12_goBy_79 ⟨Nat.le_of_ble_eq_true rfl, Nat.le_of_ble_eq_true rfl⟩) hS (fun q _ h => MA.le hS.1 q h) (MA.le hS.1) (fun r11 x t H locs ht hvm hw hB _ _ hS => ?_)
    have hP := mB.at ht hB
    clear hB ht hvm
    obtain ⟨rfl, hw⟩ := hw
    have hP : va_P (dC, dI) vwCl (mw ar cy st sl) _ := hP
    clear hw
    refine lv_istore_n (lv' := [(3, .int r11), (2, .int (nI x0)), (0, .ref (ar 0)), (1, .int (nI va))]) hx hb dX12_goBy_82 rfl hl (by decide) rfl (fun ls hl => ?_)
    refine lv_iload_n hx hb dX12_goBy_83 rfl (lv_at hl 0 rfl) ?_
    refine lv_if_eq (tgt := 99) hx hb dX12_goBy_84 (by decide) (fun c4 => ?_) (fun c4 => ?_)
    · refine lv_aload_n hx hb dX12_goBy_99 rfl (lv_at hl 2 rfl) ?_
      refine lv_aload_n hx hb dX12_goBy_100 rfl (lv_at hl 2 rfl) ?_
      refine va_get (D := (dC, dI)) (ci := 11) (v := .ref (ar 14)) (C := RX12) (T := TX12) (N := 47) hx hb hts ii_X12_goBy hown hK hP 0 rfl rfl 38 (by decide) (hts _ mm_X12_goBy_1) (fun _ hh => hh) rfl dX12_goBy_101 ?_
      refine lv_iload_n hx hb dX12_goBy_104 rfl (lv_at hl 3 rfl) ?_
      refine va_iald hx hb hK hP 14 13 rfl rfl (i := (nI va)) (vp_in_nI (by omega) (by decide)) dX12_goBy_105 ?_
      refine zz_top (v := 1) (by rw [nI_clamp (by omega)]; show st 14 va = _; rw [e0]) ?_
      refine lv_iload_n hx hb dX12_goBy_106 rfl (lv_at hl 1 rfl) ?_
      refine lv_aload_n hx hb dX12_goBy_107 rfl (lv_at hl 2 rfl) ?_
      refine va_get (D := (dC, dI)) (ci := 11) (v := .ref (ar 14)) (C := RX12) (T := TX12) (N := 47) hx hb hts ii_X12_goBy hown hK hP 0 rfl rfl 38 (by decide) (hts _ mm_X12_goBy_1) (fun _ hh => hh) rfl dX12_goBy_108 ?_
      refine lv_iload_n hx hb dX12_goBy_111 rfl (lv_at hl 3 rfl) ?_
      refine lv_iconst (v := 2) hx hb dX12_goBy_112 (by decide) ?_
      refine lv_iadd hx hb dX12_goBy_113 ?_
      refine zz_top (v := nI (va + 2)) (nI_add va 2) ?_
      refine va_iald hx hb hK hP 14 13 rfl rfl (i := (nI (va + 2))) (vp_in_nI (by omega) (by decide)) dX12_goBy_114 ?_
      refine lv_topi (fun z12 ez12 => ?_)
      refine lv_aload_n hx hb dX12_goBy_115 rfl (lv_at hl 2 rfl) ?_
      refine va_get (D := (dC, dI)) (ci := 11) (v := .ref (ar 14)) (C := RX12) (T := TX12) (N := 47) hx hb hts ii_X12_goBy hown hK hP 0 rfl rfl 38 (by decide) (hts _ mm_X12_goBy_1) (fun _ hh => hh) rfl dX12_goBy_116 ?_
      refine lv_iload_n hx hb dX12_goBy_119 rfl (lv_at hl 3 rfl) ?_
      refine lv_iconst (v := 3) hx hb dX12_goBy_120 (by decide) ?_
      refine lv_iadd hx hb dX12_goBy_121 ?_
      refine zz_top (v := nI (va + 3)) (nI_add va 3) ?_
      refine va_iald hx hb hK hP 14 13 rfl rfl (i := (nI (va + 3))) (vp_in_nI (by omega) (by decide)) dX12_goBy_122 ?_
      refine lv_topi (fun z13 ez13 => ?_)
      refine lv_aload_n hx hb dX12_goBy_123 rfl (lv_at hl 2 rfl) ?_
      refine va_get (D := (dC, dI)) (ci := 11) (v := .ref (ar 14)) (C := RX12) (T := TX12) (N := 47) hx hb hts ii_X12_goBy hown hK hP 0 rfl rfl 38 (by decide) (hts _ mm_X12_goBy_1) (fun _ hh => hh) rfl dX12_goBy_124 ?_
      refine lv_iload_n hx hb dX12_goBy_127 rfl (lv_at hl 3 rfl) ?_
      refine lv_iconst (v := 4) hx hb dX12_goBy_128 (by decide) ?_
      refine lv_iadd hx hb dX12_goBy_129 ?_
      refine zz_top (v := nI (va + 4)) (nI_add va 4) ?_
      refine va_iald hx hb hK hP 14 13 rfl rfl (i := (nI (va + 4))) (vp_in_nI (by omega) (by decide)) dX12_goBy_130 ?_
      refine lv_topi (fun z14 ez14 => ?_)
      refine va_callv (va_runV (As := [.int 1, .int (nI x0), .int z12, .int z13, .int z14]) (rest := []) ⟨hx, hb, hml, hown, hts⟩ (m_live1 l dC dI ar cy _ hN st sl x0 z12 z13 z14 (by omega) hG.1) (cwV 5 hts gX12_goBy_X12_live rfl rfl rfl (by decide +kernel) ⟨Nat.le_of_ble_eq_true rfl, Nat.le_of_ble_eq_true rfl⟩) ⟨fun a U g mk q => ⟨q.1, mPre.blind q.2⟩, va_recv hK hP (ci := 11) (q0 := 0) rfl rfl, fun U hU hW => ⟨rfl, mPre.of hP hK hU hW⟩⟩ rfl rfl hl.1 rfl (lv_room (Nat.le_of_ble_eq_true rfl)) dX12_goBy_131 ⟨Nat.le_of_ble_eq_true rfl, Nat.le_of_ble_eq_true rfl⟩) hS (fun q _ h => MA.le hS.1 q h) (MA.le hS.1) (fun x t H locs ht hvm hw hB _ _ hS => ?_)
      have hP := mB.at ht hB
      clear hB ht hvm
      obtain ⟨st16, sl17⟩ := x
      obtain ⟨hG2, hL2, hw⟩ := hw
      have hL : LQ [7, 9] sl sl17 := hL.tr hL2 (by decide)
      clear hL2
      have hP : va_P (dC, dI) vwCl (mw ar cy st16 sl17) _ := hP
      have hG : MG [1, 2, 3, 4, 5, 6, 7, 8, 9, 10, 11, 12, 13, 14, 15, 16, 17, 19, 20, 21, 22, 23] st st16 := hG.tr hG2 (by decide)
      have hGst16 : MG [1, 2, 3, 4, 5, 6, 7, 8, 9, 10, 11, 12, 13, 14, 15, 16, 17, 19, 20, 21, 22, 23] st st16 := hG2
      clear hG2
      clear hw
      refine lv_iconst (v := 0) hx hb dX12_goBy_134 (by decide) ?_
      exact W.iret (v := 0) hx hb hr (fun t ht hW => ⟨⟨0, (st16, sl17), rfl, ⟨hG, hL, trivial⟩, mB.of ht hP⟩, hS.F ht⟩) hS.2.2 dX12_goBy_135
    · refine lv_bipush (v := 10) hx hb dX12_goBy_87 (by decide) ?_
      refine lv_aload_n hx hb dX12_goBy_89 rfl (lv_at hl 2 rfl) ?_
      refine va_get (D := (dC, dI)) (ci := 11) (v := .ref (ar 14)) (C := RX12) (T := TX12) (N := 47) hx hb hts ii_X12_goBy hown hK hP 0 rfl rfl 38 (by decide) (hts _ mm_X12_goBy_1) (fun _ hh => hh) rfl dX12_goBy_90 ?_
      refine lv_iload_n hx hb dX12_goBy_93 rfl (lv_at hl 3 rfl) ?_
      refine va_iald hx hb hK hP 14 13 rfl rfl (i := (nI va)) (vp_in_nI (by omega) (by decide)) dX12_goBy_94 ?_
      refine zz_top (v := 1) (by rw [nI_clamp (by omega)]; show st 14 va = _; rw [e0]) ?_
      refine lv_imul hx hb dX12_goBy_95 ?_
      refine zz_top (v := 10) (by decide) ?_
      refine lv_iload_n hx hb dX12_goBy_96 rfl (lv_at hl 0 rfl) ?_
      refine lv_iadd hx hb dX12_goBy_97 ?_
      refine lv_topi (fun z18 ez18 => ?_)
      exact W.iret (v := z18) hx hb hr (fun t ht hW => ⟨⟨z18, (st, sl), rfl, ⟨hG, hL, trivial⟩, mB.of ht hP⟩, hS.F ht⟩) hS.2.2 dX12_goBy_98
  · refine lv_aload_n hx hb dX12_goBy_0 rfl (lv_at hl 0 rfl) ?_
    refine va_get (D := (dC, dI)) (ci := 11) (v := .ref (ar 14)) (C := RX12) (T := TX12) (N := 47) hx hb hts ii_X12_goBy hown hK hP 0 rfl rfl 38 (by decide) (hts _ mm_X12_goBy_1) (fun _ hh => hh) rfl dX12_goBy_1 ?_
    refine lv_iload_n hx hb dX12_goBy_4 rfl (lv_at hl 1 rfl) ?_
    refine lv_iconst (v := 1) hx hb dX12_goBy_5 (by decide) ?_
    refine lv_iadd hx hb dX12_goBy_6 ?_
    refine zz_top (v := nI (va + 1)) (nI_add va 1) ?_
    refine va_iald hx hb hK hP 14 13 rfl rfl (i := (nI (va + 1))) (vp_in_nI (by omega) (by decide)) dX12_goBy_7 ?_
    refine zz_top (v := (nI x0)) (by rw [nI_clamp (by omega)]; show st 14 (va + 1) = _; rw [ex0]) ?_
    refine lv_istore_n (lv' := [(2, .int (nI x0)), (0, .ref (ar 0)), (1, .int (nI va))]) hx hb dX12_goBy_8 rfl hl (by decide) rfl (fun ls hl => ?_)
    refine lv_aload_n hx hb dX12_goBy_9 rfl (lv_at hl 1 rfl) ?_
    refine va_get (D := (dC, dI)) (ci := 11) (v := .ref (ar 14)) (C := RX12) (T := TX12) (N := 47) hx hb hts ii_X12_goBy hown hK hP 0 rfl rfl 38 (by decide) (hts _ mm_X12_goBy_1) (fun _ hh => hh) rfl dX12_goBy_10 ?_
    refine lv_iload_n hx hb dX12_goBy_13 rfl (lv_at hl 2 rfl) ?_
    refine va_iald hx hb hK hP 14 13 rfl rfl (i := (nI va)) (vp_in_nI (by omega) (by decide)) dX12_goBy_14 ?_
    refine zz_top (v := 2) (by rw [nI_clamp (by omega)]; show st 14 va = _; rw [e0]) ?_
    refine lv_bipush (v := 6) hx hb dX12_goBy_15 (by decide) ?_
    refine lv_icmp_ne (tgt := 47) hx hb dX12_goBy_17 (by decide) (fun _ => ?_) (fun cc => absurd cc (by decide))
    refine lv_aload_n hx hb dX12_goBy_47 rfl (lv_at hl 1 rfl) ?_
    refine lv_aload_n hx hb dX12_goBy_48 rfl (lv_at hl 1 rfl) ?_
    refine va_get (D := (dC, dI)) (ci := 11) (v := .ref (ar 14)) (C := RX12) (T := TX12) (N := 47) hx hb hts ii_X12_goBy hown hK hP 0 rfl rfl 38 (by decide) (hts _ mm_X12_goBy_1) (fun _ hh => hh) rfl dX12_goBy_49 ?_
    refine lv_iload_n hx hb dX12_goBy_52 rfl (lv_at hl 2 rfl) ?_
    refine va_iald hx hb hK hP 14 13 rfl rfl (i := (nI va)) (vp_in_nI (by omega) (by decide)) dX12_goBy_53 ?_
    refine zz_top (v := 2) (by rw [nI_clamp (by omega)]; show st 14 va = _; rw [e0]) ?_
    refine lv_iload_n hx hb dX12_goBy_54 rfl (lv_at hl 0 rfl) ?_
    refine lv_aload_n hx hb dX12_goBy_55 rfl (lv_at hl 1 rfl) ?_
    refine va_get (D := (dC, dI)) (ci := 11) (v := .ref (ar 14)) (C := RX12) (T := TX12) (N := 47) hx hb hts ii_X12_goBy hown hK hP 0 rfl rfl 38 (by decide) (hts _ mm_X12_goBy_1) (fun _ hh => hh) rfl dX12_goBy_56 ?_
    refine lv_iload_n hx hb dX12_goBy_59 rfl (lv_at hl 2 rfl) ?_
    refine lv_iconst (v := 2) hx hb dX12_goBy_60 (by decide) ?_
    refine lv_iadd hx hb dX12_goBy_61 ?_
    refine zz_top (v := nI (va + 2)) (nI_add va 2) ?_
    refine va_iald hx hb hK hP 14 13 rfl rfl (i := (nI (va + 2))) (vp_in_nI (by omega) (by decide)) dX12_goBy_62 ?_
    refine lv_topi (fun z19 ez19 => ?_)
    refine lv_aload_n hx hb dX12_goBy_63 rfl (lv_at hl 1 rfl) ?_
    refine va_get (D := (dC, dI)) (ci := 11) (v := .ref (ar 14)) (C := RX12) (T := TX12) (N := 47) hx hb hts ii_X12_goBy hown hK hP 0 rfl rfl 38 (by decide) (hts _ mm_X12_goBy_1) (fun _ hh => hh) rfl dX12_goBy_64 ?_
    refine lv_iload_n hx hb dX12_goBy_67 rfl (lv_at hl 2 rfl) ?_
    refine lv_iconst (v := 3) hx hb dX12_goBy_68 (by decide) ?_
    refine lv_iadd hx hb dX12_goBy_69 ?_
    refine zz_top (v := nI (va + 3)) (nI_add va 3) ?_
    refine va_iald hx hb hK hP 14 13 rfl rfl (i := (nI (va + 3))) (vp_in_nI (by omega) (by decide)) dX12_goBy_70 ?_
    refine lv_topi (fun z20 ez20 => ?_)
    refine lv_aload_n hx hb dX12_goBy_71 rfl (lv_at hl 1 rfl) ?_
    refine va_get (D := (dC, dI)) (ci := 11) (v := .ref (ar 14)) (C := RX12) (T := TX12) (N := 47) hx hb hts ii_X12_goBy hown hK hP 0 rfl rfl 38 (by decide) (hts _ mm_X12_goBy_1) (fun _ hh => hh) rfl dX12_goBy_72 ?_
    refine lv_iload_n hx hb dX12_goBy_75 rfl (lv_at hl 2 rfl) ?_
    refine lv_iconst (v := 4) hx hb dX12_goBy_76 (by decide) ?_
    refine lv_iadd hx hb dX12_goBy_77 ?_
    refine zz_top (v := nI (va + 4)) (nI_add va 4) ?_
    refine va_iald hx hb hK hP 14 13 rfl rfl (i := (nI (va + 4))) (vp_in_nI (by omega) (by decide)) dX12_goBy_78 ?_
    refine lv_topi (fun z21 ez21 => ?_)
    refine va_calli (va_runV (As := [.int 2, .int (nI x0), .int z19, .int z20, .int z21]) (rest := []) ⟨hx, hb, hml, hown, hts⟩ (m_why2 l dC dI ar cy _ hN st sl (nI x0) z19 z20 z21  hG.1) (cwV 5 hts gX12_goBy_X12_why rfl rfl rfl (by decide +kernel) ⟨Nat.le_of_ble_eq_true rfl, Nat.le_of_ble_eq_true rfl⟩) ⟨fun a U g mk q => ⟨q.1, mPre.blind q.2⟩, va_recv hK hP (ci := 11) (q0 := 0) rfl rfl, fun U hU hW => ⟨rfl, mPre.of hP hK hU hW⟩⟩ rfl rfl hl.1 rfl (lv_room (Nat.le_of_ble_eq_true rfl)) dX12_goBy_79 ⟨Nat.le_of_ble_eq_true rfl, Nat.le_of_ble_eq_true rfl⟩) hS (fun q _ h => MA.le hS.1 q h) (MA.le hS.1) (fun r22 x t H locs ht hvm hw hB _ _ hS => ?_)
    have hP := mB.at ht hB
    clear hB ht hvm
    obtain ⟨rfl, hw⟩ := hw
    have hP : va_P (dC, dI) vwCl (mw ar cy st sl) _ := hP
    clear hw
    refine lv_istore_n (lv' := [(3, .int r22), (2, .int (nI x0)), (0, .ref (ar 0)), (1, .int (nI va))]) hx hb dX12_goBy_82 rfl hl (by decide) rfl (fun ls hl => ?_)
    refine lv_iload_n hx hb dX12_goBy_83 rfl (lv_at hl 0 rfl) ?_
    refine lv_if_eq (tgt := 99) hx hb dX12_goBy_84 (by decide) (fun c6 => ?_) (fun c6 => ?_)
    · refine lv_aload_n hx hb dX12_goBy_99 rfl (lv_at hl 2 rfl) ?_
      refine lv_aload_n hx hb dX12_goBy_100 rfl (lv_at hl 2 rfl) ?_
      refine va_get (D := (dC, dI)) (ci := 11) (v := .ref (ar 14)) (C := RX12) (T := TX12) (N := 47) hx hb hts ii_X12_goBy hown hK hP 0 rfl rfl 38 (by decide) (hts _ mm_X12_goBy_1) (fun _ hh => hh) rfl dX12_goBy_101 ?_
      refine lv_iload_n hx hb dX12_goBy_104 rfl (lv_at hl 3 rfl) ?_
      refine va_iald hx hb hK hP 14 13 rfl rfl (i := (nI va)) (vp_in_nI (by omega) (by decide)) dX12_goBy_105 ?_
      refine zz_top (v := 2) (by rw [nI_clamp (by omega)]; show st 14 va = _; rw [e0]) ?_
      refine lv_iload_n hx hb dX12_goBy_106 rfl (lv_at hl 1 rfl) ?_
      refine lv_aload_n hx hb dX12_goBy_107 rfl (lv_at hl 2 rfl) ?_
      refine va_get (D := (dC, dI)) (ci := 11) (v := .ref (ar 14)) (C := RX12) (T := TX12) (N := 47) hx hb hts ii_X12_goBy hown hK hP 0 rfl rfl 38 (by decide) (hts _ mm_X12_goBy_1) (fun _ hh => hh) rfl dX12_goBy_108 ?_
      refine lv_iload_n hx hb dX12_goBy_111 rfl (lv_at hl 3 rfl) ?_
      refine lv_iconst (v := 2) hx hb dX12_goBy_112 (by decide) ?_
      refine lv_iadd hx hb dX12_goBy_113 ?_
      refine zz_top (v := nI (va + 2)) (nI_add va 2) ?_
      refine va_iald hx hb hK hP 14 13 rfl rfl (i := (nI (va + 2))) (vp_in_nI (by omega) (by decide)) dX12_goBy_114 ?_
      refine lv_topi (fun z23 ez23 => ?_)
      refine lv_aload_n hx hb dX12_goBy_115 rfl (lv_at hl 2 rfl) ?_
      refine va_get (D := (dC, dI)) (ci := 11) (v := .ref (ar 14)) (C := RX12) (T := TX12) (N := 47) hx hb hts ii_X12_goBy hown hK hP 0 rfl rfl 38 (by decide) (hts _ mm_X12_goBy_1) (fun _ hh => hh) rfl dX12_goBy_116 ?_
      refine lv_iload_n hx hb dX12_goBy_119 rfl (lv_at hl 3 rfl) ?_
      refine lv_iconst (v := 3) hx hb dX12_goBy_120 (by decide) ?_
      refine lv_iadd hx hb dX12_goBy_121 ?_
      refine zz_top (v := nI (va + 3)) (nI_add va 3) ?_
      refine va_iald hx hb hK hP 14 13 rfl rfl (i := (nI (va + 3))) (vp_in_nI (by omega) (by decide)) dX12_goBy_122 ?_
      refine lv_topi (fun z24 ez24 => ?_)
      refine lv_aload_n hx hb dX12_goBy_123 rfl (lv_at hl 2 rfl) ?_
      refine va_get (D := (dC, dI)) (ci := 11) (v := .ref (ar 14)) (C := RX12) (T := TX12) (N := 47) hx hb hts ii_X12_goBy hown hK hP 0 rfl rfl 38 (by decide) (hts _ mm_X12_goBy_1) (fun _ hh => hh) rfl dX12_goBy_124 ?_
      refine lv_iload_n hx hb dX12_goBy_127 rfl (lv_at hl 3 rfl) ?_
      refine lv_iconst (v := 4) hx hb dX12_goBy_128 (by decide) ?_
      refine lv_iadd hx hb dX12_goBy_129 ?_
      refine zz_top (v := nI (va + 4)) (nI_add va 4) ?_
      refine va_iald hx hb hK hP 14 13 rfl rfl (i := (nI (va + 4))) (vp_in_nI (by omega) (by decide)) dX12_goBy_130 ?_
      refine lv_topi (fun z25 ez25 => ?_)
      refine va_callv (va_runV (As := [.int 2, .int (nI x0), .int z23, .int z24, .int z25]) (rest := []) ⟨hx, hb, hml, hown, hts⟩ (m_live2 l dC dI ar cy _ hN st sl x0 z23 z24 z25 (by omega) hG.1) (cwV 5 hts gX12_goBy_X12_live rfl rfl rfl (by decide +kernel) ⟨Nat.le_of_ble_eq_true rfl, Nat.le_of_ble_eq_true rfl⟩) ⟨fun a U g mk q => ⟨q.1, mPre.blind q.2⟩, va_recv hK hP (ci := 11) (q0 := 0) rfl rfl, fun U hU hW => ⟨rfl, mPre.of hP hK hU hW⟩⟩ rfl rfl hl.1 rfl (lv_room (Nat.le_of_ble_eq_true rfl)) dX12_goBy_131 ⟨Nat.le_of_ble_eq_true rfl, Nat.le_of_ble_eq_true rfl⟩) hS (fun q _ h => MA.le hS.1 q h) (MA.le hS.1) (fun x t H locs ht hvm hw hB _ _ hS => ?_)
      have hP := mB.at ht hB
      clear hB ht hvm
      obtain ⟨st27, sl28⟩ := x
      obtain ⟨hG2, hL2, hw⟩ := hw
      have hL : LQ [7, 9] sl sl28 := hL.tr hL2 (by decide)
      clear hL2
      have hP : va_P (dC, dI) vwCl (mw ar cy st27 sl28) _ := hP
      have hG : MG [1, 2, 3, 4, 5, 6, 7, 8, 9, 10, 11, 12, 13, 14, 15, 16, 17, 19, 20, 21, 22, 23] st st27 := hG.tr hG2 (by decide)
      have hGst27 : MG [1, 2, 3, 4, 5, 6, 7, 8, 9, 10, 11, 12, 13, 14, 15, 16, 17, 19, 20, 21, 22, 23] st st27 := hG2
      clear hG2
      clear hw
      refine lv_iconst (v := 0) hx hb dX12_goBy_134 (by decide) ?_
      exact W.iret (v := 0) hx hb hr (fun t ht hW => ⟨⟨0, (st27, sl28), rfl, ⟨hG, hL, trivial⟩, mB.of ht hP⟩, hS.F ht⟩) hS.2.2 dX12_goBy_135
    · refine lv_bipush (v := 10) hx hb dX12_goBy_87 (by decide) ?_
      refine lv_aload_n hx hb dX12_goBy_89 rfl (lv_at hl 2 rfl) ?_
      refine va_get (D := (dC, dI)) (ci := 11) (v := .ref (ar 14)) (C := RX12) (T := TX12) (N := 47) hx hb hts ii_X12_goBy hown hK hP 0 rfl rfl 38 (by decide) (hts _ mm_X12_goBy_1) (fun _ hh => hh) rfl dX12_goBy_90 ?_
      refine lv_iload_n hx hb dX12_goBy_93 rfl (lv_at hl 3 rfl) ?_
      refine va_iald hx hb hK hP 14 13 rfl rfl (i := (nI va)) (vp_in_nI (by omega) (by decide)) dX12_goBy_94 ?_
      refine zz_top (v := 2) (by rw [nI_clamp (by omega)]; show st 14 va = _; rw [e0]) ?_
      refine lv_imul hx hb dX12_goBy_95 ?_
      refine zz_top (v := 20) (by decide) ?_
      refine lv_iload_n hx hb dX12_goBy_96 rfl (lv_at hl 0 rfl) ?_
      refine lv_iadd hx hb dX12_goBy_97 ?_
      refine lv_topi (fun z29 ez29 => ?_)
      exact W.iret (v := z29) hx hb hr (fun t ht hW => ⟨⟨z29, (st, sl), rfl, ⟨hG, hL, trivial⟩, mB.of ht hP⟩, hS.F ht⟩) hS.2.2 dX12_goBy_98
  · refine lv_aload_n hx hb dX12_goBy_0 rfl (lv_at hl 0 rfl) ?_
    refine va_get (D := (dC, dI)) (ci := 11) (v := .ref (ar 14)) (C := RX12) (T := TX12) (N := 47) hx hb hts ii_X12_goBy hown hK hP 0 rfl rfl 38 (by decide) (hts _ mm_X12_goBy_1) (fun _ hh => hh) rfl dX12_goBy_1 ?_
    refine lv_iload_n hx hb dX12_goBy_4 rfl (lv_at hl 1 rfl) ?_
    refine lv_iconst (v := 1) hx hb dX12_goBy_5 (by decide) ?_
    refine lv_iadd hx hb dX12_goBy_6 ?_
    refine zz_top (v := nI (va + 1)) (nI_add va 1) ?_
    refine va_iald hx hb hK hP 14 13 rfl rfl (i := (nI (va + 1))) (vp_in_nI (by omega) (by decide)) dX12_goBy_7 ?_
    refine lv_topi (fun z30 ez30 => ?_)
    refine lv_istore_n (lv' := [(2, .int z30), (0, .ref (ar 0)), (1, .int (nI va))]) hx hb dX12_goBy_8 rfl hl (by decide) rfl (fun ls hl => ?_)
    refine lv_aload_n hx hb dX12_goBy_9 rfl (lv_at hl 1 rfl) ?_
    refine va_get (D := (dC, dI)) (ci := 11) (v := .ref (ar 14)) (C := RX12) (T := TX12) (N := 47) hx hb hts ii_X12_goBy hown hK hP 0 rfl rfl 38 (by decide) (hts _ mm_X12_goBy_1) (fun _ hh => hh) rfl dX12_goBy_10 ?_
    refine lv_iload_n hx hb dX12_goBy_13 rfl (lv_at hl 2 rfl) ?_
    refine va_iald hx hb hK hP 14 13 rfl rfl (i := (nI va)) (vp_in_nI (by omega) (by decide)) dX12_goBy_14 ?_
    refine zz_top (v := 3) (by rw [nI_clamp (by omega)]; show st 14 va = _; rw [e0]) ?_
    refine lv_bipush (v := 6) hx hb dX12_goBy_15 (by decide) ?_
    refine lv_icmp_ne (tgt := 47) hx hb dX12_goBy_17 (by decide) (fun _ => ?_) (fun cc => absurd cc (by decide))
    refine lv_aload_n hx hb dX12_goBy_47 rfl (lv_at hl 1 rfl) ?_
    refine lv_aload_n hx hb dX12_goBy_48 rfl (lv_at hl 1 rfl) ?_
    refine va_get (D := (dC, dI)) (ci := 11) (v := .ref (ar 14)) (C := RX12) (T := TX12) (N := 47) hx hb hts ii_X12_goBy hown hK hP 0 rfl rfl 38 (by decide) (hts _ mm_X12_goBy_1) (fun _ hh => hh) rfl dX12_goBy_49 ?_
    refine lv_iload_n hx hb dX12_goBy_52 rfl (lv_at hl 2 rfl) ?_
    refine va_iald hx hb hK hP 14 13 rfl rfl (i := (nI va)) (vp_in_nI (by omega) (by decide)) dX12_goBy_53 ?_
    refine zz_top (v := 3) (by rw [nI_clamp (by omega)]; show st 14 va = _; rw [e0]) ?_
    refine lv_iload_n hx hb dX12_goBy_54 rfl (lv_at hl 0 rfl) ?_
    refine lv_aload_n hx hb dX12_goBy_55 rfl (lv_at hl 1 rfl) ?_
    refine va_get (D := (dC, dI)) (ci := 11) (v := .ref (ar 14)) (C := RX12) (T := TX12) (N := 47) hx hb hts ii_X12_goBy hown hK hP 0 rfl rfl 38 (by decide) (hts _ mm_X12_goBy_1) (fun _ hh => hh) rfl dX12_goBy_56 ?_
    refine lv_iload_n hx hb dX12_goBy_59 rfl (lv_at hl 2 rfl) ?_
    refine lv_iconst (v := 2) hx hb dX12_goBy_60 (by decide) ?_
    refine lv_iadd hx hb dX12_goBy_61 ?_
    refine zz_top (v := nI (va + 2)) (nI_add va 2) ?_
    refine va_iald hx hb hK hP 14 13 rfl rfl (i := (nI (va + 2))) (vp_in_nI (by omega) (by decide)) dX12_goBy_62 ?_
    refine lv_topi (fun z31 ez31 => ?_)
    refine lv_aload_n hx hb dX12_goBy_63 rfl (lv_at hl 1 rfl) ?_
    refine va_get (D := (dC, dI)) (ci := 11) (v := .ref (ar 14)) (C := RX12) (T := TX12) (N := 47) hx hb hts ii_X12_goBy hown hK hP 0 rfl rfl 38 (by decide) (hts _ mm_X12_goBy_1) (fun _ hh => hh) rfl dX12_goBy_64 ?_
    refine lv_iload_n hx hb dX12_goBy_67 rfl (lv_at hl 2 rfl) ?_
    refine lv_iconst (v := 3) hx hb dX12_goBy_68 (by decide) ?_
    refine lv_iadd hx hb dX12_goBy_69 ?_
    refine zz_top (v := nI (va + 3)) (nI_add va 3) ?_
    refine va_iald hx hb hK hP 14 13 rfl rfl (i := (nI (va + 3))) (vp_in_nI (by omega) (by decide)) dX12_goBy_70 ?_
    refine lv_topi (fun z32 ez32 => ?_)
    refine lv_aload_n hx hb dX12_goBy_71 rfl (lv_at hl 1 rfl) ?_
    refine va_get (D := (dC, dI)) (ci := 11) (v := .ref (ar 14)) (C := RX12) (T := TX12) (N := 47) hx hb hts ii_X12_goBy hown hK hP 0 rfl rfl 38 (by decide) (hts _ mm_X12_goBy_1) (fun _ hh => hh) rfl dX12_goBy_72 ?_
    refine lv_iload_n hx hb dX12_goBy_75 rfl (lv_at hl 2 rfl) ?_
    refine lv_iconst (v := 4) hx hb dX12_goBy_76 (by decide) ?_
    refine lv_iadd hx hb dX12_goBy_77 ?_
    refine zz_top (v := nI (va + 4)) (nI_add va 4) ?_
    refine va_iald hx hb hK hP 14 13 rfl rfl (i := (nI (va + 4))) (vp_in_nI (by omega) (by decide)) dX12_goBy_78 ?_
    refine lv_topi (fun z33 ez33 => ?_)
    refine va_calli (va_runV (As := [.int 3, .int z30, .int z31, .int z32, .int z33]) (rest := []) ⟨hx, hb, hml, hown, hts⟩ (m_why3 l dC dI ar cy _ hN st sl z30 z31 z32 z33  hG.1) (cwV 5 hts gX12_goBy_X12_why rfl rfl rfl (by decide +kernel) ⟨Nat.le_of_ble_eq_true rfl, Nat.le_of_ble_eq_true rfl⟩) ⟨fun a U g mk q => ⟨q.1, mPre.blind q.2⟩, va_recv hK hP (ci := 11) (q0 := 0) rfl rfl, fun U hU hW => ⟨rfl, mPre.of hP hK hU hW⟩⟩ rfl rfl hl.1 rfl (lv_room (Nat.le_of_ble_eq_true rfl)) dX12_goBy_79 ⟨Nat.le_of_ble_eq_true rfl, Nat.le_of_ble_eq_true rfl⟩) hS (fun q _ h => MA.le hS.1 q h) (MA.le hS.1) (fun r34 x t H locs ht hvm hw hB _ _ hS => ?_)
    have hP := mB.at ht hB
    clear hB ht hvm
    obtain ⟨rfl, hw⟩ := hw
    have hP : va_P (dC, dI) vwCl (mw ar cy st sl) _ := hP
    clear hw
    refine lv_istore_n (lv' := [(3, .int r34), (2, .int z30), (0, .ref (ar 0)), (1, .int (nI va))]) hx hb dX12_goBy_82 rfl hl (by decide) rfl (fun ls hl => ?_)
    refine lv_iload_n hx hb dX12_goBy_83 rfl (lv_at hl 0 rfl) ?_
    refine lv_if_eq (tgt := 99) hx hb dX12_goBy_84 (by decide) (fun c8 => ?_) (fun c8 => ?_)
    · refine lv_aload_n hx hb dX12_goBy_99 rfl (lv_at hl 2 rfl) ?_
      refine lv_aload_n hx hb dX12_goBy_100 rfl (lv_at hl 2 rfl) ?_
      refine va_get (D := (dC, dI)) (ci := 11) (v := .ref (ar 14)) (C := RX12) (T := TX12) (N := 47) hx hb hts ii_X12_goBy hown hK hP 0 rfl rfl 38 (by decide) (hts _ mm_X12_goBy_1) (fun _ hh => hh) rfl dX12_goBy_101 ?_
      refine lv_iload_n hx hb dX12_goBy_104 rfl (lv_at hl 3 rfl) ?_
      refine va_iald hx hb hK hP 14 13 rfl rfl (i := (nI va)) (vp_in_nI (by omega) (by decide)) dX12_goBy_105 ?_
      refine zz_top (v := 3) (by rw [nI_clamp (by omega)]; show st 14 va = _; rw [e0]) ?_
      refine lv_iload_n hx hb dX12_goBy_106 rfl (lv_at hl 1 rfl) ?_
      refine lv_aload_n hx hb dX12_goBy_107 rfl (lv_at hl 2 rfl) ?_
      refine va_get (D := (dC, dI)) (ci := 11) (v := .ref (ar 14)) (C := RX12) (T := TX12) (N := 47) hx hb hts ii_X12_goBy hown hK hP 0 rfl rfl 38 (by decide) (hts _ mm_X12_goBy_1) (fun _ hh => hh) rfl dX12_goBy_108 ?_
      refine lv_iload_n hx hb dX12_goBy_111 rfl (lv_at hl 3 rfl) ?_
      refine lv_iconst (v := 2) hx hb dX12_goBy_112 (by decide) ?_
      refine lv_iadd hx hb dX12_goBy_113 ?_
      refine zz_top (v := nI (va + 2)) (nI_add va 2) ?_
      refine va_iald hx hb hK hP 14 13 rfl rfl (i := (nI (va + 2))) (vp_in_nI (by omega) (by decide)) dX12_goBy_114 ?_
      refine lv_topi (fun z35 ez35 => ?_)
      refine lv_aload_n hx hb dX12_goBy_115 rfl (lv_at hl 2 rfl) ?_
      refine va_get (D := (dC, dI)) (ci := 11) (v := .ref (ar 14)) (C := RX12) (T := TX12) (N := 47) hx hb hts ii_X12_goBy hown hK hP 0 rfl rfl 38 (by decide) (hts _ mm_X12_goBy_1) (fun _ hh => hh) rfl dX12_goBy_116 ?_
      refine lv_iload_n hx hb dX12_goBy_119 rfl (lv_at hl 3 rfl) ?_
      refine lv_iconst (v := 3) hx hb dX12_goBy_120 (by decide) ?_
      refine lv_iadd hx hb dX12_goBy_121 ?_
      refine zz_top (v := nI (va + 3)) (nI_add va 3) ?_
      refine va_iald hx hb hK hP 14 13 rfl rfl (i := (nI (va + 3))) (vp_in_nI (by omega) (by decide)) dX12_goBy_122 ?_
      refine lv_topi (fun z36 ez36 => ?_)
      refine lv_aload_n hx hb dX12_goBy_123 rfl (lv_at hl 2 rfl) ?_
      refine va_get (D := (dC, dI)) (ci := 11) (v := .ref (ar 14)) (C := RX12) (T := TX12) (N := 47) hx hb hts ii_X12_goBy hown hK hP 0 rfl rfl 38 (by decide) (hts _ mm_X12_goBy_1) (fun _ hh => hh) rfl dX12_goBy_124 ?_
      refine lv_iload_n hx hb dX12_goBy_127 rfl (lv_at hl 3 rfl) ?_
      refine lv_iconst (v := 4) hx hb dX12_goBy_128 (by decide) ?_
      refine lv_iadd hx hb dX12_goBy_129 ?_
      refine zz_top (v := nI (va + 4)) (nI_add va 4) ?_
      refine va_iald hx hb hK hP 14 13 rfl rfl (i := (nI (va + 4))) (vp_in_nI (by omega) (by decide)) dX12_goBy_130 ?_
      refine lv_topi (fun z37 ez37 => ?_)
      refine va_callv (va_runV (As := [.int 3, .int z30, .int z35, .int z36, .int z37]) (rest := []) ⟨hx, hb, hml, hown, hts⟩ (m_live3 l dC dI ar cy _ hN st sl z30 z35 z36 z37  hG.1) (cwV 5 hts gX12_goBy_X12_live rfl rfl rfl (by decide +kernel) ⟨Nat.le_of_ble_eq_true rfl, Nat.le_of_ble_eq_true rfl⟩) ⟨fun a U g mk q => ⟨q.1, mPre.blind q.2⟩, va_recv hK hP (ci := 11) (q0 := 0) rfl rfl, fun U hU hW => ⟨rfl, mPre.of hP hK hU hW⟩⟩ rfl rfl hl.1 rfl (lv_room (Nat.le_of_ble_eq_true rfl)) dX12_goBy_131 ⟨Nat.le_of_ble_eq_true rfl, Nat.le_of_ble_eq_true rfl⟩) hS (fun q _ h => MA.le hS.1 q h) (MA.le hS.1) (fun x t H locs ht hvm hw hB _ _ hS => ?_)
      have hP := mB.at ht hB
      clear hB ht hvm
      obtain ⟨st39, sl40⟩ := x
      obtain ⟨hG2, hL2, hw⟩ := hw
      have hL : LQ [7, 9] sl sl40 := hL.tr hL2 (by decide)
      clear hL2
      have hP : va_P (dC, dI) vwCl (mw ar cy st39 sl40) _ := hP
      have hG : MG [1, 2, 3, 4, 5, 6, 7, 8, 9, 10, 11, 12, 13, 14, 15, 16, 17, 19, 20, 21, 22, 23] st st39 := hG.tr hG2 (by decide)
      have hGst39 : MG [1, 2, 3, 4, 5, 6, 7, 8, 9, 10, 11, 12, 13, 14, 15, 16, 17, 19, 20, 21, 22, 23] st st39 := hG2
      clear hG2
      clear hw
      refine lv_iconst (v := 0) hx hb dX12_goBy_134 (by decide) ?_
      exact W.iret (v := 0) hx hb hr (fun t ht hW => ⟨⟨0, (st39, sl40), rfl, ⟨hG, hL, trivial⟩, mB.of ht hP⟩, hS.F ht⟩) hS.2.2 dX12_goBy_135
    · refine lv_bipush (v := 10) hx hb dX12_goBy_87 (by decide) ?_
      refine lv_aload_n hx hb dX12_goBy_89 rfl (lv_at hl 2 rfl) ?_
      refine va_get (D := (dC, dI)) (ci := 11) (v := .ref (ar 14)) (C := RX12) (T := TX12) (N := 47) hx hb hts ii_X12_goBy hown hK hP 0 rfl rfl 38 (by decide) (hts _ mm_X12_goBy_1) (fun _ hh => hh) rfl dX12_goBy_90 ?_
      refine lv_iload_n hx hb dX12_goBy_93 rfl (lv_at hl 3 rfl) ?_
      refine va_iald hx hb hK hP 14 13 rfl rfl (i := (nI va)) (vp_in_nI (by omega) (by decide)) dX12_goBy_94 ?_
      refine zz_top (v := 3) (by rw [nI_clamp (by omega)]; show st 14 va = _; rw [e0]) ?_
      refine lv_imul hx hb dX12_goBy_95 ?_
      refine zz_top (v := 30) (by decide) ?_
      refine lv_iload_n hx hb dX12_goBy_96 rfl (lv_at hl 0 rfl) ?_
      refine lv_iadd hx hb dX12_goBy_97 ?_
      refine lv_topi (fun z41 ez41 => ?_)
      exact W.iret (v := z41) hx hb hr (fun t ht hW => ⟨⟨z41, (st, sl), rfl, ⟨hG, hL, trivial⟩, mB.of ht hP⟩, hS.F ht⟩) hS.2.2 dX12_goBy_98
  · refine lv_aload_n hx hb dX12_goBy_0 rfl (lv_at hl 0 rfl) ?_
    refine va_get (D := (dC, dI)) (ci := 11) (v := .ref (ar 14)) (C := RX12) (T := TX12) (N := 47) hx hb hts ii_X12_goBy hown hK hP 0 rfl rfl 38 (by decide) (hts _ mm_X12_goBy_1) (fun _ hh => hh) rfl dX12_goBy_1 ?_
    refine lv_iload_n hx hb dX12_goBy_4 rfl (lv_at hl 1 rfl) ?_
    refine lv_iconst (v := 1) hx hb dX12_goBy_5 (by decide) ?_
    refine lv_iadd hx hb dX12_goBy_6 ?_
    refine zz_top (v := nI (va + 1)) (nI_add va 1) ?_
    refine va_iald hx hb hK hP 14 13 rfl rfl (i := (nI (va + 1))) (vp_in_nI (by omega) (by decide)) dX12_goBy_7 ?_
    refine zz_top (v := (nI x0)) (by rw [nI_clamp (by omega)]; show st 14 (va + 1) = _; rw [ex0]) ?_
    refine lv_istore_n (lv' := [(2, .int (nI x0)), (0, .ref (ar 0)), (1, .int (nI va))]) hx hb dX12_goBy_8 rfl hl (by decide) rfl (fun ls hl => ?_)
    refine lv_aload_n hx hb dX12_goBy_9 rfl (lv_at hl 1 rfl) ?_
    refine va_get (D := (dC, dI)) (ci := 11) (v := .ref (ar 14)) (C := RX12) (T := TX12) (N := 47) hx hb hts ii_X12_goBy hown hK hP 0 rfl rfl 38 (by decide) (hts _ mm_X12_goBy_1) (fun _ hh => hh) rfl dX12_goBy_10 ?_
    refine lv_iload_n hx hb dX12_goBy_13 rfl (lv_at hl 2 rfl) ?_
    refine va_iald hx hb hK hP 14 13 rfl rfl (i := (nI va)) (vp_in_nI (by omega) (by decide)) dX12_goBy_14 ?_
    refine zz_top (v := 4) (by rw [nI_clamp (by omega)]; show st 14 va = _; rw [e0]) ?_
    refine lv_bipush (v := 6) hx hb dX12_goBy_15 (by decide) ?_
    refine lv_icmp_ne (tgt := 47) hx hb dX12_goBy_17 (by decide) (fun _ => ?_) (fun cc => absurd cc (by decide))
    refine lv_aload_n hx hb dX12_goBy_47 rfl (lv_at hl 1 rfl) ?_
    refine lv_aload_n hx hb dX12_goBy_48 rfl (lv_at hl 1 rfl) ?_
    refine va_get (D := (dC, dI)) (ci := 11) (v := .ref (ar 14)) (C := RX12) (T := TX12) (N := 47) hx hb hts ii_X12_goBy hown hK hP 0 rfl rfl 38 (by decide) (hts _ mm_X12_goBy_1) (fun _ hh => hh) rfl dX12_goBy_49 ?_
    refine lv_iload_n hx hb dX12_goBy_52 rfl (lv_at hl 2 rfl) ?_
    refine va_iald hx hb hK hP 14 13 rfl rfl (i := (nI va)) (vp_in_nI (by omega) (by decide)) dX12_goBy_53 ?_
    refine zz_top (v := 4) (by rw [nI_clamp (by omega)]; show st 14 va = _; rw [e0]) ?_
    refine lv_iload_n hx hb dX12_goBy_54 rfl (lv_at hl 0 rfl) ?_
    refine lv_aload_n hx hb dX12_goBy_55 rfl (lv_at hl 1 rfl) ?_
    refine va_get (D := (dC, dI)) (ci := 11) (v := .ref (ar 14)) (C := RX12) (T := TX12) (N := 47) hx hb hts ii_X12_goBy hown hK hP 0 rfl rfl 38 (by decide) (hts _ mm_X12_goBy_1) (fun _ hh => hh) rfl dX12_goBy_56 ?_
    refine lv_iload_n hx hb dX12_goBy_59 rfl (lv_at hl 2 rfl) ?_
    refine lv_iconst (v := 2) hx hb dX12_goBy_60 (by decide) ?_
    refine lv_iadd hx hb dX12_goBy_61 ?_
    refine zz_top (v := nI (va + 2)) (nI_add va 2) ?_
    refine va_iald hx hb hK hP 14 13 rfl rfl (i := (nI (va + 2))) (vp_in_nI (by omega) (by decide)) dX12_goBy_62 ?_
    refine zz_top (v := (nI y0)) (by rw [nI_clamp (by omega)]; show st 14 (va + 2) = _; rw [ey0]) ?_
    refine lv_aload_n hx hb dX12_goBy_63 rfl (lv_at hl 1 rfl) ?_
    refine va_get (D := (dC, dI)) (ci := 11) (v := .ref (ar 14)) (C := RX12) (T := TX12) (N := 47) hx hb hts ii_X12_goBy hown hK hP 0 rfl rfl 38 (by decide) (hts _ mm_X12_goBy_1) (fun _ hh => hh) rfl dX12_goBy_64 ?_
    refine lv_iload_n hx hb dX12_goBy_67 rfl (lv_at hl 2 rfl) ?_
    refine lv_iconst (v := 3) hx hb dX12_goBy_68 (by decide) ?_
    refine lv_iadd hx hb dX12_goBy_69 ?_
    refine zz_top (v := nI (va + 3)) (nI_add va 3) ?_
    refine va_iald hx hb hK hP 14 13 rfl rfl (i := (nI (va + 3))) (vp_in_nI (by omega) (by decide)) dX12_goBy_70 ?_
    refine lv_topi (fun z42 ez42 => ?_)
    refine lv_aload_n hx hb dX12_goBy_71 rfl (lv_at hl 1 rfl) ?_
    refine va_get (D := (dC, dI)) (ci := 11) (v := .ref (ar 14)) (C := RX12) (T := TX12) (N := 47) hx hb hts ii_X12_goBy hown hK hP 0 rfl rfl 38 (by decide) (hts _ mm_X12_goBy_1) (fun _ hh => hh) rfl dX12_goBy_72 ?_
    refine lv_iload_n hx hb dX12_goBy_75 rfl (lv_at hl 2 rfl) ?_
    refine lv_iconst (v := 4) hx hb dX12_goBy_76 (by decide) ?_
    refine lv_iadd hx hb dX12_goBy_77 ?_
    refine zz_top (v := nI (va + 4)) (nI_add va 4) ?_
    refine va_iald hx hb hK hP 14 13 rfl rfl (i := (nI (va + 4))) (vp_in_nI (by omega) (by decide)) dX12_goBy_78 ?_
    refine lv_topi (fun z43 ez43 => ?_)
    refine va_calli (va_runV (As := [.int 4, .int (nI x0), .int (nI y0), .int z42, .int z43]) (rest := []) ⟨hx, hb, hml, hown, hts⟩ (m_why4 l dC dI ar cy _ hN st sl x0 (nI y0) z42 z43 (by omega) hG.1) (cwV 5 hts gX12_goBy_X12_why rfl rfl rfl (by decide +kernel) ⟨Nat.le_of_ble_eq_true rfl, Nat.le_of_ble_eq_true rfl⟩) ⟨fun a U g mk q => ⟨q.1, mPre.blind q.2⟩, va_recv hK hP (ci := 11) (q0 := 0) rfl rfl, fun U hU hW => ⟨rfl, mPre.of hP hK hU hW⟩⟩ rfl rfl hl.1 rfl (lv_room (Nat.le_of_ble_eq_true rfl)) dX12_goBy_79 ⟨Nat.le_of_ble_eq_true rfl, Nat.le_of_ble_eq_true rfl⟩) hS (fun q _ h => MA.le hS.1 q h) (MA.le hS.1) (fun r44 x t H locs ht hvm hw hB _ _ hS => ?_)
    have hP := mB.at ht hB
    clear hB ht hvm
    obtain ⟨rfl, hw⟩ := hw
    have hP : va_P (dC, dI) vwCl (mw ar cy st sl) _ := hP
    clear hw
    refine lv_istore_n (lv' := [(3, .int r44), (2, .int (nI x0)), (0, .ref (ar 0)), (1, .int (nI va))]) hx hb dX12_goBy_82 rfl hl (by decide) rfl (fun ls hl => ?_)
    refine lv_iload_n hx hb dX12_goBy_83 rfl (lv_at hl 0 rfl) ?_
    refine lv_if_eq (tgt := 99) hx hb dX12_goBy_84 (by decide) (fun c10 => ?_) (fun c10 => ?_)
    · refine lv_aload_n hx hb dX12_goBy_99 rfl (lv_at hl 2 rfl) ?_
      refine lv_aload_n hx hb dX12_goBy_100 rfl (lv_at hl 2 rfl) ?_
      refine va_get (D := (dC, dI)) (ci := 11) (v := .ref (ar 14)) (C := RX12) (T := TX12) (N := 47) hx hb hts ii_X12_goBy hown hK hP 0 rfl rfl 38 (by decide) (hts _ mm_X12_goBy_1) (fun _ hh => hh) rfl dX12_goBy_101 ?_
      refine lv_iload_n hx hb dX12_goBy_104 rfl (lv_at hl 3 rfl) ?_
      refine va_iald hx hb hK hP 14 13 rfl rfl (i := (nI va)) (vp_in_nI (by omega) (by decide)) dX12_goBy_105 ?_
      refine zz_top (v := 4) (by rw [nI_clamp (by omega)]; show st 14 va = _; rw [e0]) ?_
      refine lv_iload_n hx hb dX12_goBy_106 rfl (lv_at hl 1 rfl) ?_
      refine lv_aload_n hx hb dX12_goBy_107 rfl (lv_at hl 2 rfl) ?_
      refine va_get (D := (dC, dI)) (ci := 11) (v := .ref (ar 14)) (C := RX12) (T := TX12) (N := 47) hx hb hts ii_X12_goBy hown hK hP 0 rfl rfl 38 (by decide) (hts _ mm_X12_goBy_1) (fun _ hh => hh) rfl dX12_goBy_108 ?_
      refine lv_iload_n hx hb dX12_goBy_111 rfl (lv_at hl 3 rfl) ?_
      refine lv_iconst (v := 2) hx hb dX12_goBy_112 (by decide) ?_
      refine lv_iadd hx hb dX12_goBy_113 ?_
      refine zz_top (v := nI (va + 2)) (nI_add va 2) ?_
      refine va_iald hx hb hK hP 14 13 rfl rfl (i := (nI (va + 2))) (vp_in_nI (by omega) (by decide)) dX12_goBy_114 ?_
      refine zz_top (v := (nI y0)) (by rw [nI_clamp (by omega)]; show st 14 (va + 2) = _; rw [ey0]) ?_
      refine lv_aload_n hx hb dX12_goBy_115 rfl (lv_at hl 2 rfl) ?_
      refine va_get (D := (dC, dI)) (ci := 11) (v := .ref (ar 14)) (C := RX12) (T := TX12) (N := 47) hx hb hts ii_X12_goBy hown hK hP 0 rfl rfl 38 (by decide) (hts _ mm_X12_goBy_1) (fun _ hh => hh) rfl dX12_goBy_116 ?_
      refine lv_iload_n hx hb dX12_goBy_119 rfl (lv_at hl 3 rfl) ?_
      refine lv_iconst (v := 3) hx hb dX12_goBy_120 (by decide) ?_
      refine lv_iadd hx hb dX12_goBy_121 ?_
      refine zz_top (v := nI (va + 3)) (nI_add va 3) ?_
      refine va_iald hx hb hK hP 14 13 rfl rfl (i := (nI (va + 3))) (vp_in_nI (by omega) (by decide)) dX12_goBy_122 ?_
      refine lv_topi (fun z45 ez45 => ?_)
      refine lv_aload_n hx hb dX12_goBy_123 rfl (lv_at hl 2 rfl) ?_
      refine va_get (D := (dC, dI)) (ci := 11) (v := .ref (ar 14)) (C := RX12) (T := TX12) (N := 47) hx hb hts ii_X12_goBy hown hK hP 0 rfl rfl 38 (by decide) (hts _ mm_X12_goBy_1) (fun _ hh => hh) rfl dX12_goBy_124 ?_
      refine lv_iload_n hx hb dX12_goBy_127 rfl (lv_at hl 3 rfl) ?_
      refine lv_iconst (v := 4) hx hb dX12_goBy_128 (by decide) ?_
      refine lv_iadd hx hb dX12_goBy_129 ?_
      refine zz_top (v := nI (va + 4)) (nI_add va 4) ?_
      refine va_iald hx hb hK hP 14 13 rfl rfl (i := (nI (va + 4))) (vp_in_nI (by omega) (by decide)) dX12_goBy_130 ?_
      refine lv_topi (fun z46 ez46 => ?_)
      refine va_callv (va_runV (As := [.int 4, .int (nI x0), .int (nI y0), .int z45, .int z46]) (rest := []) ⟨hx, hb, hml, hown, hts⟩ (m_live4 l dC dI ar cy _ hN st sl x0 y0 z45 z46 (by omega) (by omega) hG.1) (cwV 5 hts gX12_goBy_X12_live rfl rfl rfl (by decide +kernel) ⟨Nat.le_of_ble_eq_true rfl, Nat.le_of_ble_eq_true rfl⟩) ⟨fun a U g mk q => ⟨q.1, mPre.blind q.2⟩, va_recv hK hP (ci := 11) (q0 := 0) rfl rfl, fun U hU hW => ⟨rfl, mPre.of hP hK hU hW⟩⟩ rfl rfl hl.1 rfl (lv_room (Nat.le_of_ble_eq_true rfl)) dX12_goBy_131 ⟨Nat.le_of_ble_eq_true rfl, Nat.le_of_ble_eq_true rfl⟩) hS (fun q _ h => MA.le hS.1 q h) (MA.le hS.1) (fun x t H locs ht hvm hw hB _ _ hS => ?_)
      have hP := mB.at ht hB
      clear hB ht hvm
      obtain ⟨st48, sl49⟩ := x
      obtain ⟨hG2, hL2, hw⟩ := hw
      have hL : LQ [7, 9] sl sl49 := hL.tr hL2 (by decide)
      clear hL2
      have hP : va_P (dC, dI) vwCl (mw ar cy st48 sl49) _ := hP
      have hG : MG [1, 2, 3, 4, 5, 6, 7, 8, 9, 10, 11, 12, 13, 14, 15, 16, 17, 19, 20, 21, 22, 23] st st48 := hG.tr hG2 (by decide)
      have hGst48 : MG [1, 2, 3, 4, 5, 6, 7, 8, 9, 10, 11, 12, 13, 14, 15, 16, 17, 19, 20, 21, 22, 23] st st48 := hG2
      clear hG2
      clear hw
      refine lv_iconst (v := 0) hx hb dX12_goBy_134 (by decide) ?_
      exact W.iret (v := 0) hx hb hr (fun t ht hW => ⟨⟨0, (st48, sl49), rfl, ⟨hG, hL, trivial⟩, mB.of ht hP⟩, hS.F ht⟩) hS.2.2 dX12_goBy_135
    · refine lv_bipush (v := 10) hx hb dX12_goBy_87 (by decide) ?_
      refine lv_aload_n hx hb dX12_goBy_89 rfl (lv_at hl 2 rfl) ?_
      refine va_get (D := (dC, dI)) (ci := 11) (v := .ref (ar 14)) (C := RX12) (T := TX12) (N := 47) hx hb hts ii_X12_goBy hown hK hP 0 rfl rfl 38 (by decide) (hts _ mm_X12_goBy_1) (fun _ hh => hh) rfl dX12_goBy_90 ?_
      refine lv_iload_n hx hb dX12_goBy_93 rfl (lv_at hl 3 rfl) ?_
      refine va_iald hx hb hK hP 14 13 rfl rfl (i := (nI va)) (vp_in_nI (by omega) (by decide)) dX12_goBy_94 ?_
      refine zz_top (v := 4) (by rw [nI_clamp (by omega)]; show st 14 va = _; rw [e0]) ?_
      refine lv_imul hx hb dX12_goBy_95 ?_
      refine zz_top (v := 40) (by decide) ?_
      refine lv_iload_n hx hb dX12_goBy_96 rfl (lv_at hl 0 rfl) ?_
      refine lv_iadd hx hb dX12_goBy_97 ?_
      refine lv_topi (fun z50 ez50 => ?_)
      exact W.iret (v := z50) hx hb hr (fun t ht hW => ⟨⟨z50, (st, sl), rfl, ⟨hG, hL, trivial⟩, mB.of ht hP⟩, hS.F ht⟩) hS.2.2 dX12_goBy_98
  · refine lv_aload_n hx hb dX12_goBy_0 rfl (lv_at hl 0 rfl) ?_
    refine va_get (D := (dC, dI)) (ci := 11) (v := .ref (ar 14)) (C := RX12) (T := TX12) (N := 47) hx hb hts ii_X12_goBy hown hK hP 0 rfl rfl 38 (by decide) (hts _ mm_X12_goBy_1) (fun _ hh => hh) rfl dX12_goBy_1 ?_
    refine lv_iload_n hx hb dX12_goBy_4 rfl (lv_at hl 1 rfl) ?_
    refine lv_iconst (v := 1) hx hb dX12_goBy_5 (by decide) ?_
    refine lv_iadd hx hb dX12_goBy_6 ?_
    refine zz_top (v := nI (va + 1)) (nI_add va 1) ?_
    refine va_iald hx hb hK hP 14 13 rfl rfl (i := (nI (va + 1))) (vp_in_nI (by omega) (by decide)) dX12_goBy_7 ?_
    refine lv_topi (fun z51 ez51 => ?_)
    refine lv_istore_n (lv' := [(2, .int z51), (0, .ref (ar 0)), (1, .int (nI va))]) hx hb dX12_goBy_8 rfl hl (by decide) rfl (fun ls hl => ?_)
    refine lv_aload_n hx hb dX12_goBy_9 rfl (lv_at hl 1 rfl) ?_
    refine va_get (D := (dC, dI)) (ci := 11) (v := .ref (ar 14)) (C := RX12) (T := TX12) (N := 47) hx hb hts ii_X12_goBy hown hK hP 0 rfl rfl 38 (by decide) (hts _ mm_X12_goBy_1) (fun _ hh => hh) rfl dX12_goBy_10 ?_
    refine lv_iload_n hx hb dX12_goBy_13 rfl (lv_at hl 2 rfl) ?_
    refine va_iald hx hb hK hP 14 13 rfl rfl (i := (nI va)) (vp_in_nI (by omega) (by decide)) dX12_goBy_14 ?_
    refine zz_top (v := 5) (by rw [nI_clamp (by omega)]; show st 14 va = _; rw [e0]) ?_
    refine lv_bipush (v := 6) hx hb dX12_goBy_15 (by decide) ?_
    refine lv_icmp_ne (tgt := 47) hx hb dX12_goBy_17 (by decide) (fun _ => ?_) (fun cc => absurd cc (by decide))
    refine lv_aload_n hx hb dX12_goBy_47 rfl (lv_at hl 1 rfl) ?_
    refine lv_aload_n hx hb dX12_goBy_48 rfl (lv_at hl 1 rfl) ?_
    refine va_get (D := (dC, dI)) (ci := 11) (v := .ref (ar 14)) (C := RX12) (T := TX12) (N := 47) hx hb hts ii_X12_goBy hown hK hP 0 rfl rfl 38 (by decide) (hts _ mm_X12_goBy_1) (fun _ hh => hh) rfl dX12_goBy_49 ?_
    refine lv_iload_n hx hb dX12_goBy_52 rfl (lv_at hl 2 rfl) ?_
    refine va_iald hx hb hK hP 14 13 rfl rfl (i := (nI va)) (vp_in_nI (by omega) (by decide)) dX12_goBy_53 ?_
    refine zz_top (v := 5) (by rw [nI_clamp (by omega)]; show st 14 va = _; rw [e0]) ?_
    refine lv_iload_n hx hb dX12_goBy_54 rfl (lv_at hl 0 rfl) ?_
    refine lv_aload_n hx hb dX12_goBy_55 rfl (lv_at hl 1 rfl) ?_
    refine va_get (D := (dC, dI)) (ci := 11) (v := .ref (ar 14)) (C := RX12) (T := TX12) (N := 47) hx hb hts ii_X12_goBy hown hK hP 0 rfl rfl 38 (by decide) (hts _ mm_X12_goBy_1) (fun _ hh => hh) rfl dX12_goBy_56 ?_
    refine lv_iload_n hx hb dX12_goBy_59 rfl (lv_at hl 2 rfl) ?_
    refine lv_iconst (v := 2) hx hb dX12_goBy_60 (by decide) ?_
    refine lv_iadd hx hb dX12_goBy_61 ?_
    refine zz_top (v := nI (va + 2)) (nI_add va 2) ?_
    refine va_iald hx hb hK hP 14 13 rfl rfl (i := (nI (va + 2))) (vp_in_nI (by omega) (by decide)) dX12_goBy_62 ?_
    refine lv_topi (fun z52 ez52 => ?_)
    refine lv_aload_n hx hb dX12_goBy_63 rfl (lv_at hl 1 rfl) ?_
    refine va_get (D := (dC, dI)) (ci := 11) (v := .ref (ar 14)) (C := RX12) (T := TX12) (N := 47) hx hb hts ii_X12_goBy hown hK hP 0 rfl rfl 38 (by decide) (hts _ mm_X12_goBy_1) (fun _ hh => hh) rfl dX12_goBy_64 ?_
    refine lv_iload_n hx hb dX12_goBy_67 rfl (lv_at hl 2 rfl) ?_
    refine lv_iconst (v := 3) hx hb dX12_goBy_68 (by decide) ?_
    refine lv_iadd hx hb dX12_goBy_69 ?_
    refine zz_top (v := nI (va + 3)) (nI_add va 3) ?_
    refine va_iald hx hb hK hP 14 13 rfl rfl (i := (nI (va + 3))) (vp_in_nI (by omega) (by decide)) dX12_goBy_70 ?_
    refine lv_topi (fun z53 ez53 => ?_)
    refine lv_aload_n hx hb dX12_goBy_71 rfl (lv_at hl 1 rfl) ?_
    refine va_get (D := (dC, dI)) (ci := 11) (v := .ref (ar 14)) (C := RX12) (T := TX12) (N := 47) hx hb hts ii_X12_goBy hown hK hP 0 rfl rfl 38 (by decide) (hts _ mm_X12_goBy_1) (fun _ hh => hh) rfl dX12_goBy_72 ?_
    refine lv_iload_n hx hb dX12_goBy_75 rfl (lv_at hl 2 rfl) ?_
    refine lv_iconst (v := 4) hx hb dX12_goBy_76 (by decide) ?_
    refine lv_iadd hx hb dX12_goBy_77 ?_
    refine zz_top (v := nI (va + 4)) (nI_add va 4) ?_
    refine va_iald hx hb hK hP 14 13 rfl rfl (i := (nI (va + 4))) (vp_in_nI (by omega) (by decide)) dX12_goBy_78 ?_
    refine lv_topi (fun z54 ez54 => ?_)
    refine va_calli (va_runV (As := [.int 5, .int z51, .int z52, .int z53, .int z54]) (rest := []) ⟨hx, hb, hml, hown, hts⟩ (m_why5 l dC dI ar cy _ hN st sl z51 z52 z53 z54  hG.1) (cwV 5 hts gX12_goBy_X12_why rfl rfl rfl (by decide +kernel) ⟨Nat.le_of_ble_eq_true rfl, Nat.le_of_ble_eq_true rfl⟩) ⟨fun a U g mk q => ⟨q.1, mPre.blind q.2⟩, va_recv hK hP (ci := 11) (q0 := 0) rfl rfl, fun U hU hW => ⟨rfl, mPre.of hP hK hU hW⟩⟩ rfl rfl hl.1 rfl (lv_room (Nat.le_of_ble_eq_true rfl)) dX12_goBy_79 ⟨Nat.le_of_ble_eq_true rfl, Nat.le_of_ble_eq_true rfl⟩) hS (fun q _ h => MA.le hS.1 q h) (MA.le hS.1) (fun r55 x t H locs ht hvm hw hB _ _ hS => ?_)
    have hP := mB.at ht hB
    clear hB ht hvm
    obtain ⟨rfl, hw⟩ := hw
    have hP : va_P (dC, dI) vwCl (mw ar cy st sl) _ := hP
    clear hw
    refine lv_istore_n (lv' := [(3, .int r55), (2, .int z51), (0, .ref (ar 0)), (1, .int (nI va))]) hx hb dX12_goBy_82 rfl hl (by decide) rfl (fun ls hl => ?_)
    refine lv_iload_n hx hb dX12_goBy_83 rfl (lv_at hl 0 rfl) ?_
    refine lv_if_eq (tgt := 99) hx hb dX12_goBy_84 (by decide) (fun c12 => ?_) (fun c12 => ?_)
    · refine lv_aload_n hx hb dX12_goBy_99 rfl (lv_at hl 2 rfl) ?_
      refine lv_aload_n hx hb dX12_goBy_100 rfl (lv_at hl 2 rfl) ?_
      refine va_get (D := (dC, dI)) (ci := 11) (v := .ref (ar 14)) (C := RX12) (T := TX12) (N := 47) hx hb hts ii_X12_goBy hown hK hP 0 rfl rfl 38 (by decide) (hts _ mm_X12_goBy_1) (fun _ hh => hh) rfl dX12_goBy_101 ?_
      refine lv_iload_n hx hb dX12_goBy_104 rfl (lv_at hl 3 rfl) ?_
      refine va_iald hx hb hK hP 14 13 rfl rfl (i := (nI va)) (vp_in_nI (by omega) (by decide)) dX12_goBy_105 ?_
      refine zz_top (v := 5) (by rw [nI_clamp (by omega)]; show st 14 va = _; rw [e0]) ?_
      refine lv_iload_n hx hb dX12_goBy_106 rfl (lv_at hl 1 rfl) ?_
      refine lv_aload_n hx hb dX12_goBy_107 rfl (lv_at hl 2 rfl) ?_
      refine va_get (D := (dC, dI)) (ci := 11) (v := .ref (ar 14)) (C := RX12) (T := TX12) (N := 47) hx hb hts ii_X12_goBy hown hK hP 0 rfl rfl 38 (by decide) (hts _ mm_X12_goBy_1) (fun _ hh => hh) rfl dX12_goBy_108 ?_
      refine lv_iload_n hx hb dX12_goBy_111 rfl (lv_at hl 3 rfl) ?_
      refine lv_iconst (v := 2) hx hb dX12_goBy_112 (by decide) ?_
      refine lv_iadd hx hb dX12_goBy_113 ?_
      refine zz_top (v := nI (va + 2)) (nI_add va 2) ?_
      refine va_iald hx hb hK hP 14 13 rfl rfl (i := (nI (va + 2))) (vp_in_nI (by omega) (by decide)) dX12_goBy_114 ?_
      refine lv_topi (fun z56 ez56 => ?_)
      refine lv_aload_n hx hb dX12_goBy_115 rfl (lv_at hl 2 rfl) ?_
      refine va_get (D := (dC, dI)) (ci := 11) (v := .ref (ar 14)) (C := RX12) (T := TX12) (N := 47) hx hb hts ii_X12_goBy hown hK hP 0 rfl rfl 38 (by decide) (hts _ mm_X12_goBy_1) (fun _ hh => hh) rfl dX12_goBy_116 ?_
      refine lv_iload_n hx hb dX12_goBy_119 rfl (lv_at hl 3 rfl) ?_
      refine lv_iconst (v := 3) hx hb dX12_goBy_120 (by decide) ?_
      refine lv_iadd hx hb dX12_goBy_121 ?_
      refine zz_top (v := nI (va + 3)) (nI_add va 3) ?_
      refine va_iald hx hb hK hP 14 13 rfl rfl (i := (nI (va + 3))) (vp_in_nI (by omega) (by decide)) dX12_goBy_122 ?_
      refine lv_topi (fun z57 ez57 => ?_)
      refine lv_aload_n hx hb dX12_goBy_123 rfl (lv_at hl 2 rfl) ?_
      refine va_get (D := (dC, dI)) (ci := 11) (v := .ref (ar 14)) (C := RX12) (T := TX12) (N := 47) hx hb hts ii_X12_goBy hown hK hP 0 rfl rfl 38 (by decide) (hts _ mm_X12_goBy_1) (fun _ hh => hh) rfl dX12_goBy_124 ?_
      refine lv_iload_n hx hb dX12_goBy_127 rfl (lv_at hl 3 rfl) ?_
      refine lv_iconst (v := 4) hx hb dX12_goBy_128 (by decide) ?_
      refine lv_iadd hx hb dX12_goBy_129 ?_
      refine zz_top (v := nI (va + 4)) (nI_add va 4) ?_
      refine va_iald hx hb hK hP 14 13 rfl rfl (i := (nI (va + 4))) (vp_in_nI (by omega) (by decide)) dX12_goBy_130 ?_
      refine lv_topi (fun z58 ez58 => ?_)
      refine va_callv (va_runV (As := [.int 5, .int z51, .int z56, .int z57, .int z58]) (rest := []) ⟨hx, hb, hml, hown, hts⟩ (m_live5 l dC dI ar cy _ hN st sl z51 z56 z57 z58  hG.1) (cwV 5 hts gX12_goBy_X12_live rfl rfl rfl (by decide +kernel) ⟨Nat.le_of_ble_eq_true rfl, Nat.le_of_ble_eq_true rfl⟩) ⟨fun a U g mk q => ⟨q.1, mPre.blind q.2⟩, va_recv hK hP (ci := 11) (q0 := 0) rfl rfl, fun U hU hW => ⟨rfl, mPre.of hP hK hU hW⟩⟩ rfl rfl hl.1 rfl (lv_room (Nat.le_of_ble_eq_true rfl)) dX12_goBy_131 ⟨Nat.le_of_ble_eq_true rfl, Nat.le_of_ble_eq_true rfl⟩) hS (fun q _ h => MA.le hS.1 q h) (MA.le hS.1) (fun x t H locs ht hvm hw hB _ _ hS => ?_)
      have hP := mB.at ht hB
      clear hB ht hvm
      obtain ⟨st60, sl61⟩ := x
      obtain ⟨hG2, hL2, hw⟩ := hw
      have hL : LQ [7, 9] sl sl61 := hL.tr hL2 (by decide)
      clear hL2
      have hP : va_P (dC, dI) vwCl (mw ar cy st60 sl61) _ := hP
      have hG : MG [1, 2, 3, 4, 5, 6, 7, 8, 9, 10, 11, 12, 13, 14, 15, 16, 17, 19, 20, 21, 22, 23] st st60 := hG.tr hG2 (by decide)
      have hGst60 : MG [1, 2, 3, 4, 5, 6, 7, 8, 9, 10, 11, 12, 13, 14, 15, 16, 17, 19, 20, 21, 22, 23] st st60 := hG2
      clear hG2
      clear hw
      refine lv_iconst (v := 0) hx hb dX12_goBy_134 (by decide) ?_
      exact W.iret (v := 0) hx hb hr (fun t ht hW => ⟨⟨0, (st60, sl61), rfl, ⟨hG, hL, trivial⟩, mB.of ht hP⟩, hS.F ht⟩) hS.2.2 dX12_goBy_135
    · refine lv_bipush (v := 10) hx hb dX12_goBy_87 (by decide) ?_
      refine lv_aload_n hx hb dX12_goBy_89 rfl (lv_at hl 2 rfl) ?_
      refine va_get (D := (dC, dI)) (ci := 11) (v := .ref (ar 14)) (C := RX12) (T := TX12) (N := 47) hx hb hts ii_X12_goBy hown hK hP 0 rfl rfl 38 (by decide) (hts _ mm_X12_goBy_1) (fun _ hh => hh) rfl dX12_goBy_90 ?_
      refine lv_iload_n hx hb dX12_goBy_93 rfl (lv_at hl 3 rfl) ?_
      refine va_iald hx hb hK hP 14 13 rfl rfl (i := (nI va)) (vp_in_nI (by omega) (by decide)) dX12_goBy_94 ?_
      refine zz_top (v := 5) (by rw [nI_clamp (by omega)]; show st 14 va = _; rw [e0]) ?_
      refine lv_imul hx hb dX12_goBy_95 ?_
      refine zz_top (v := 50) (by decide) ?_
      refine lv_iload_n hx hb dX12_goBy_96 rfl (lv_at hl 0 rfl) ?_
      refine lv_iadd hx hb dX12_goBy_97 ?_
      refine lv_topi (fun z62 ez62 => ?_)
      exact W.iret (v := z62) hx hb hr (fun t ht hW => ⟨⟨z62, (st, sl), rfl, ⟨hG, hL, trivial⟩, mB.of ht hP⟩, hS.F ht⟩) hS.2.2 dX12_goBy_98
  · refine lv_aload_n hx hb dX12_goBy_0 rfl (lv_at hl 0 rfl) ?_
    refine va_get (D := (dC, dI)) (ci := 11) (v := .ref (ar 14)) (C := RX12) (T := TX12) (N := 47) hx hb hts ii_X12_goBy hown hK hP 0 rfl rfl 38 (by decide) (hts _ mm_X12_goBy_1) (fun _ hh => hh) rfl dX12_goBy_1 ?_
    refine lv_iload_n hx hb dX12_goBy_4 rfl (lv_at hl 1 rfl) ?_
    refine lv_iconst (v := 1) hx hb dX12_goBy_5 (by decide) ?_
    refine lv_iadd hx hb dX12_goBy_6 ?_
    refine zz_top (v := nI (va + 1)) (nI_add va 1) ?_
    refine va_iald hx hb hK hP 14 13 rfl rfl (i := (nI (va + 1))) (vp_in_nI (by omega) (by decide)) dX12_goBy_7 ?_
    refine lv_topi (fun z63 ez63 => ?_)
    refine lv_istore_n (lv' := [(2, .int z63), (0, .ref (ar 0)), (1, .int (nI va))]) hx hb dX12_goBy_8 rfl hl (by decide) rfl (fun ls hl => ?_)
    refine lv_aload_n hx hb dX12_goBy_9 rfl (lv_at hl 1 rfl) ?_
    refine va_get (D := (dC, dI)) (ci := 11) (v := .ref (ar 14)) (C := RX12) (T := TX12) (N := 47) hx hb hts ii_X12_goBy hown hK hP 0 rfl rfl 38 (by decide) (hts _ mm_X12_goBy_1) (fun _ hh => hh) rfl dX12_goBy_10 ?_
    refine lv_iload_n hx hb dX12_goBy_13 rfl (lv_at hl 2 rfl) ?_
    refine va_iald hx hb hK hP 14 13 rfl rfl (i := (nI va)) (vp_in_nI (by omega) (by decide)) dX12_goBy_14 ?_
    refine zz_top (v := 6) (by rw [nI_clamp (by omega)]; show st 14 va = _; rw [e0]) ?_
    refine lv_bipush (v := 6) hx hb dX12_goBy_15 (by decide) ?_
    refine lv_icmp_ne (tgt := 47) hx hb dX12_goBy_17 (by decide) (fun cc => absurd (by decide) cc) (fun _ => ?_)
    refine lv_aload_n hx hb dX12_goBy_20 rfl (lv_at hl 1 rfl) ?_
    refine va_get (D := (dC, dI)) (ci := 11) (v := .ref (ar 2)) (C := RX12) (T := TX12) (N := 47) hx hb hts ii_X12_goBy hown hK hP 0 rfl rfl 14 (by decide) (hts _ mm_X12_goBy_2) (fun _ hh => hh) rfl dX12_goBy_21 ?_
    refine lv_bipush (v := 61) hx hb dX12_goBy_24 (by decide) ?_
    refine va_iald hx hb hK hP 2 1 rfl rfl (i := 61) (zz_in (by decide)) dX12_goBy_26 ?_
    refine lv_topi (fun z64 ez64 => ?_)
    refine lv_iload_n hx hb dX12_goBy_27 rfl (lv_at hl 0 rfl) ?_
    refine lv_iadd hx hb dX12_goBy_28 ?_
    refine lv_topi (fun z65 ez65 => ?_)
    refine lv_sipush (v := 400) hx hb dX12_goBy_29 (by decide) ?_
    refine lv_icmp_le (tgt := 38) hx hb dX12_goBy_32 (by decide) (fun c14 => ?_) (fun c14 => ?_)
    · refine lv_aload_n hx hb dX12_goBy_38 rfl (lv_at hl 1 rfl) ?_
      refine lv_iload_n hx hb dX12_goBy_39 rfl (lv_at hl 0 rfl) ?_
      refine lv_iload_n hx hb dX12_goBy_40 rfl (lv_at hl 0 rfl) ?_
      refine va_calli (va_runV (As := [.int z63, .int z63]) (rest := []) ⟨hx, hb, hml, hown, hts⟩ (m_passDays l dC dI ar cy _ hN st sl z63 z63  hG.1) (cwV 2 hts gX12_goBy_X12_passDays rfl rfl rfl (by decide +kernel) ⟨Nat.le_of_ble_eq_true rfl, Nat.le_of_ble_eq_true rfl⟩) ⟨fun a U g mk q => ⟨q.1, mPre.blind q.2⟩, va_recv hK hP (ci := 11) (q0 := 0) rfl rfl, fun U hU hW => ⟨rfl, mPre.of hP hK hU hW⟩⟩ rfl rfl hl.1 rfl (lv_room (Nat.le_of_ble_eq_true rfl)) dX12_goBy_41 ⟨Nat.le_of_ble_eq_true rfl, Nat.le_of_ble_eq_true rfl⟩) hS (fun q _ h => MA.le hS.1 q h) (MA.le hS.1) (fun r66 x t H locs ht hvm hw hB _ _ hS => ?_)
      have hP := mB.at ht hB
      clear hB ht hvm
      obtain ⟨st67, sl68⟩ := x
      obtain ⟨hG2, hL2, hw⟩ := hw
      have hL : LQ [7, 9] sl sl68 := hL.tr hL2 (by decide)
      clear hL2
      have hP : va_P (dC, dI) vwCl (mw ar cy st67 sl68) _ := hP
      have hG : MG [1, 2, 3, 4, 5, 6, 7, 8, 9, 10, 11, 12, 13, 14, 15, 16, 17, 19, 20, 21, 22, 23] st st67 := hG.tr hG2 (by decide)
      have hGst67 : MG [1, 2, 3, 4, 5, 6, 7, 8, 9, 10, 11, 12, 13, 14, 15, 16, 17, 19, 20, 21, 22, 23] st st67 := hG2
      clear hG2
      clear hw
      refine lv_pop hx hb dX12_goBy_44 rfl ?_
      refine lv_iconst (v := 0) hx hb dX12_goBy_45 (by decide) ?_
      exact W.iret (v := 0) hx hb hr (fun t ht hW => ⟨⟨0, (st67, sl68), rfl, ⟨hG, hL, trivial⟩, mB.of ht hP⟩, hS.F ht⟩) hS.2.2 dX12_goBy_46
    · refine lv_bipush (v := 51) hx hb dX12_goBy_35 (by decide) ?_
      exact W.iret (v := 51) hx hb hr (fun t ht hW => ⟨⟨51, (st, sl), rfl, ⟨hG, hL, trivial⟩, mB.of ht hP⟩, hS.F ht⟩) hS.2.2 dX12_goBy_37
set_option maxHeartbeats 4000000 in
set_option maxRecDepth 100000 in
theorem m_stay0 (l : Launch) (dC : Nat → ClassId) (dI : Nat → Nat → Nat) (ar : Nat → Nat) (cy : Nat → ClassId) (sz : Nat) (hN : MN ar) (st : Nat → Nat → Int32) (sl : Nat → Nat → Int64) (hI : MI st) : Met l yX12_stay wsX12_stay ({ frames := 0, cells := 0, slots := 0, locals := 0 }) (va_Pc [.ref (ar 0), .int 0] (mPre dC dI ar cy sz st sl)) (va_Qv (fun (x : MT) => MG [1, 2, 3, 4, 5, 6, 7, 8, 9, 10, 11, 12, 13, 14, 15, 16, 17, 19, 20, 21, 22, 23] st x.1 ∧ LQ [7, 9] sl x.2 ∧ (True)) (mB dC dI ar cy) (MA ar sz)) 0 0 (MA ar sz) := by
  refine Met.ofW (cc := cX12_stay) (maxL := 4) (ret := none) (by decide) rfl ?_
  intro p e s m args below meth c s₁ B hml hv
  obtain ⟨rfl, hsz, hP, hK⟩ := hv
  have hx := B.exec
  have hb := B.bytes
  have hr := B.returns
  have hts := atoms_spec (ws := wsX12_stay) B.pre
  have hown : s.vm.findClass RX12 = some m.cls := findClass_of_methodNamed B.named
  subst hsz
  have hS : va_S (MA ar s.heap.size) s.heap s.heap [] := va_S.rf
  have hG : MG [1, 2, 3, 4, 5, 6, 7, 8, 9, 10, 11, 12, 13, 14, 15, 16, 17, 19, 20, 21, 22, 23] st st := MG.rf hI
  have hl := lv_entry ([.ref (ar 0), .int 0]) (n := 4) (Nat.le_of_ble_eq_true rfl)
  rw [lg_entry_eq]
  generalize (lg_sl ([.ref (ar 0), .int 0]) ++ List.replicate (4 - (lg_sl ([.ref (ar 0), .int 0])).length) Slot.unset).toArray = ls at hl ⊢
  have hl : lv_has ls 4 [(0, .ref (ar 0)), (1, .int 0)] := hl
  clear hI
  have hL : LQ [7, 9] sl sl := LQ.rf
  refine lv_iconst (v := 0) hx hb dX12_stay_0 (by decide) ?_
  refine lv_istore_n (lv' := [(2, .int 0), (0, .ref (ar 0)), (1, .int 0)]) hx hb dX12_stay_1 rfl hl (by decide) rfl (fun ls hl => ?_)
  refine zz_wf (fun n stk H locs ls => ∃ k1 : Nat, ∃ st2 : Nat → Nat → Int32, ∃ sl3 : Nat → Nat → Int64, n = 71 - k1 ∧ 0 ≤ k1 ∧ k1 < 71 ∧ va_P (dC, dI) vwCl (mw ar cy st2 sl3) H ∧ MG [1, 2, 3, 4, 5, 6, 7, 8, 9, 10, 11, 12, 13, 14, 15, 16, 17, 19, 20, 21, 22, 23] st st2 ∧ LQ [7, 9] sl sl3 ∧ va_S (MA ar s.heap.size) s.heap H locs ∧ lv_has ls 4 [(2, .int (nI k1)), (0, .ref (ar 0)), (1, .int 0)] ∧ stk = []) ?_ (71 - 0) _ _ _ _ ⟨0, st, sl, rfl, by omega, by omega, hP, hG, hL, hS, lv_sub hl [0, 1, 2] rfl, rfl⟩
  rintro nn stk H locs ls ⟨k1, st2, sl3, hm5, hv4_0, hv5_1, hP, hG, hL, hS, hl, rfl⟩ ih6
  refine lv_iload_n hx hb dX12_stay_2 rfl (lv_at hl 0 rfl) ?_
  refine lv_bipush (v := 70) hx hb dX12_stay_3 (by decide) ?_
  refine lv_icmp_ge (tgt := 46) hx hb dX12_stay_5 (by decide) (fun c1 => ?_) (fun c1 => ?_)
  · have c1 : 70 ≤ k1 := (nI_leI (a := 70) (b := k1) (by omega) (by omega)).mp c1
    refine lv_iload_n hx hb dX12_stay_46 rfl (lv_at hl 2 rfl) ?_
    refine lv_if_ne (tgt := 51) hx hb dX12_stay_47 (by decide) (fun cc => absurd (by decide) cc) (fun _ => ?_)
    exact W.vret hx hb hr (fun t ht hW => ⟨⟨(st2, sl3), rfl, ⟨hG, hL, trivial⟩, mB.of ht hP⟩, hS.F ht⟩) hS.2.2 dX12_stay_50
  · have c1 : ¬ 70 ≤ k1 := fun hh => c1 ((nI_leI (a := 70) (b := k1) (by omega) (by omega)).mpr hh)
    refine lv_aload_n hx hb dX12_stay_8 rfl (lv_at hl 1 rfl) ?_
    refine va_get (D := (dC, dI)) (ci := 11) (v := .ref (ar 2)) (C := RX12) (T := TX12) (N := 47) hx hb hts ii_X12_stay hown hK hP 0 rfl rfl 14 (by decide) (hts _ mm_X12_stay_1) (fun _ hh => hh) rfl dX12_stay_9 ?_
    refine lv_bipush (v := 61) hx hb dX12_stay_12 (by decide) ?_
    refine lv_iload_n hx hb dX12_stay_14 rfl (lv_at hl 0 rfl) ?_
    refine lv_iadd hx hb dX12_stay_15 ?_
    refine zz_top (v := nI (61 + k1)) (nI_add 61 k1) ?_
    refine va_iald hx hb hK hP 2 1 rfl rfl (i := (nI (61 + k1))) (vp_in_nI (by omega) (by decide)) dX12_stay_16 ?_
    refine zz_top (v := st2 2 (61 + k1)) (by rw [nI_clamp (by omega)]) ?_
    have hIst2 := hG.1
    refine lv_istore_n (lv' := [(3, .int (st2 2 (61 + k1))), (2, .int (nI k1)), (0, .ref (ar 0)), (1, .int 0)]) hx hb dX12_stay_17 rfl hl (by decide) rfl (fun ls hl => ?_)
    refine lv_aload_n hx hb dX12_stay_18 rfl (lv_at hl 2 rfl) ?_
    refine va_get (D := (dC, dI)) (ci := 11) (v := .ref (ar 2)) (C := RX12) (T := TX12) (N := 47) hx hb hts ii_X12_stay hown hK hP 0 rfl rfl 14 (by decide) (hts _ mm_X12_stay_1) (fun _ hh => hh) rfl dX12_stay_19 ?_
    refine lv_bipush (v := 61) hx hb dX12_stay_22 (by decide) ?_
    refine lv_iload_n hx hb dX12_stay_24 rfl (lv_at hl 1 rfl) ?_
    refine lv_iadd hx hb dX12_stay_25 ?_
    refine zz_top (v := nI (61 + k1)) (nI_add 61 k1) ?_
    refine lv_aload_n hx hb dX12_stay_26 rfl (lv_at hl 2 rfl) ?_
    refine va_get (D := (dC, dI)) (ci := 11) (v := .ref (ar 6)) (C := RX12) (T := TX12) (N := 47) hx hb hts ii_X12_stay hown hK hP 0 rfl rfl 18 (by decide) (hts _ mm_X12_stay_2) (fun _ hh => hh) rfl dX12_stay_27 ?_
    refine lv_iload_n hx hb dX12_stay_30 rfl (lv_at hl 1 rfl) ?_
    refine va_iald hx hb hK hP 6 5 rfl rfl (i := (nI k1)) (vp_in_nI (by omega) (by decide)) dX12_stay_31 ?_
    refine zz_top (v := st2 6 k1) (by rw [nI_clamp (by omega)]) ?_
    have hIst2 := hG.1
    refine va_iast hx hb hK hP (mD hN _ _ _ _) hS 2 1 rfl rfl (i := (nI (61 + k1))) (vp_in_nI (by omega) (by decide)) dX12_stay_32 (fun H locs hP _ hS => ?_)
    rw [nI_clamp (by omega)] at hP
    have hP : va_P (dC, dI) vwCl (mw ar cy (up2 st2 2 (61 + k1) (st2 6 k1)) sl3) H := hP
    obtain ⟨st7, hP, hG⟩ : ∃ y, va_P (dC, dI) vwCl (mw ar cy y sl3) H ∧ MG [1, 2, 3, 4, 5, 6, 7, 8, 9, 10, 11, 12, 13, 14, 15, 16, 17, 19, 20, 21, 22, 23] st y := ⟨up2 st2 2 (61 + k1) (st2 6 k1), hP, hG.up (rc hIst2 (rfl)) (pn (pcl_2_61_131 (61 + k1) (by omega) (by omega)) (by decide))⟩
    refine lv_aload_n hx hb dX12_stay_33 rfl (lv_at hl 2 rfl) ?_
    refine va_get (D := (dC, dI)) (ci := 11) (v := .ref (ar 6)) (C := RX12) (T := TX12) (N := 47) hx hb hts ii_X12_stay hown hK hP 0 rfl rfl 18 (by decide) (hts _ mm_X12_stay_2) (fun _ hh => hh) rfl dX12_stay_34 ?_
    refine lv_iload_n hx hb dX12_stay_37 rfl (lv_at hl 1 rfl) ?_
    refine lv_iload_n hx hb dX12_stay_38 rfl (lv_at hl 0 rfl) ?_
    refine va_iast hx hb hK hP (mD hN _ _ _ _) hS 6 5 rfl rfl (i := (nI k1)) (vp_in_nI (by omega) (by decide)) dX12_stay_39 (fun H locs hP _ hS => ?_)
    rw [nI_clamp (by omega)] at hP
    have hP : va_P (dC, dI) vwCl (mw ar cy (up2 st7 6 k1 (st2 2 (61 + k1))) sl3) H := hP
    obtain ⟨st8, hP, hG⟩ : ∃ y, va_P (dC, dI) vwCl (mw ar cy y sl3) H ∧ MG [1, 2, 3, 4, 5, 6, 7, 8, 9, 10, 11, 12, 13, 14, 15, 16, 17, 19, 20, 21, 22, 23] st y := ⟨up2 st7 6 k1 (st2 2 (61 + k1)), hP, hG.up (rc hIst2 (rfl)) (pn (pcl_6_0_70 k1 (by omega) (by omega)) (by decide))⟩
    refine lv_iinc (v := (nI (k1 + 1))) (lv' := [(2, .int (nI (k1 + 1))), (3, .int (st2 2 (61 + k1))), (0, .ref (ar 0)), (1, .int 0)]) hx hb dX12_stay_40 hl (k := 1) rfl (nI_add k1 1) (by decide) rfl (fun ls hl => ?_)
    refine lv_goto (tgt := 2) hx hb dX12_stay_43 (by decide) ?_
    exact ih6 (71 - (k1 + 1)) _ _ _ _ (by omega) ⟨(k1 + 1), st8, sl3, rfl, by omega, by omega, hP, hG, hL, hS, lv_sub hl [0, 2, 3] rfl, rfl⟩
set_option maxHeartbeats 4000000 in
set_option maxRecDepth 100000 in
theorem m_stay1 (l : Launch) (dC : Nat → ClassId) (dI : Nat → Nat → Nat) (ar : Nat → Nat) (cy : Nat → ClassId) (sz : Nat) (hN : MN ar) (st : Nat → Nat → Int32) (sl : Nat → Nat → Int64) (hI : MI st) : Met l yX12_stay wsX12_stay ({ frames := 1, cells := 0, slots := 0, locals := 21 }) (va_Pc [.ref (ar 0), .int 1] (mPre dC dI ar cy sz st sl)) (va_Qv (fun (x : MT) => MG [1, 2, 3, 4, 5, 6, 7, 8, 9, 10, 11, 12, 13, 14, 15, 16, 17, 19, 20, 21, 22, 23] st x.1 ∧ LQ [7, 9] sl x.2 ∧ (True)) (mB dC dI ar cy) (MA ar sz)) 0 0 (MA ar sz) := by
  refine Met.ofW (cc := cX12_stay) (maxL := 4) (ret := none) (by decide) rfl ?_
  intro p e s m args below meth c s₁ B hml hv
  obtain ⟨rfl, hsz, hP, hK⟩ := hv
  have hx := B.exec
  have hb := B.bytes
  have hr := B.returns
  have hts := atoms_spec (ws := wsX12_stay) B.pre
  have hown : s.vm.findClass RX12 = some m.cls := findClass_of_methodNamed B.named
  subst hsz
  have hS : va_S (MA ar s.heap.size) s.heap s.heap [] := va_S.rf
  have hG : MG [1, 2, 3, 4, 5, 6, 7, 8, 9, 10, 11, 12, 13, 14, 15, 16, 17, 19, 20, 21, 22, 23] st st := MG.rf hI
  have hl := lv_entry ([.ref (ar 0), .int 1]) (n := 4) (Nat.le_of_ble_eq_true rfl)
  rw [lg_entry_eq]
  generalize (lg_sl ([.ref (ar 0), .int 1]) ++ List.replicate (4 - (lg_sl ([.ref (ar 0), .int 1])).length) Slot.unset).toArray = ls at hl ⊢
  have hl : lv_has ls 4 [(0, .ref (ar 0)), (1, .int 1)] := hl
  clear hI
  have hL : LQ [7, 9] sl sl := LQ.rf
  refine lv_iconst (v := 0) hx hb dX12_stay_0 (by decide) ?_
  refine lv_istore_n (lv' := [(2, .int 0), (0, .ref (ar 0)), (1, .int 1)]) hx hb dX12_stay_1 rfl hl (by decide) rfl (fun ls hl => ?_)
  refine zz_wf (fun n stk H locs ls => ∃ k1 : Nat, ∃ st2 : Nat → Nat → Int32, ∃ sl3 : Nat → Nat → Int64, n = 71 - k1 ∧ 0 ≤ k1 ∧ k1 < 71 ∧ va_P (dC, dI) vwCl (mw ar cy st2 sl3) H ∧ MG [1, 2, 3, 4, 5, 6, 7, 8, 9, 10, 11, 12, 13, 14, 15, 16, 17, 19, 20, 21, 22, 23] st st2 ∧ LQ [7, 9] sl sl3 ∧ va_S (MA ar s.heap.size) s.heap H locs ∧ lv_has ls 4 [(2, .int (nI k1)), (0, .ref (ar 0)), (1, .int 1)] ∧ stk = []) ?_ (71 - 0) _ _ _ _ ⟨0, st, sl, rfl, by omega, by omega, hP, hG, hL, hS, lv_sub hl [0, 1, 2] rfl, rfl⟩
  rintro nn stk H locs ls ⟨k1, st2, sl3, hm5, hv4_0, hv5_1, hP, hG, hL, hS, hl, rfl⟩ ih6
  refine lv_iload_n hx hb dX12_stay_2 rfl (lv_at hl 0 rfl) ?_
  refine lv_bipush (v := 70) hx hb dX12_stay_3 (by decide) ?_
  refine lv_icmp_ge (tgt := 46) hx hb dX12_stay_5 (by decide) (fun c1 => ?_) (fun c1 => ?_)
  · have c1 : 70 ≤ k1 := (nI_leI (a := 70) (b := k1) (by omega) (by omega)).mp c1
    refine lv_iload_n hx hb dX12_stay_46 rfl (lv_at hl 2 rfl) ?_
    refine lv_if_ne (tgt := 51) hx hb dX12_stay_47 (by decide) (fun _ => ?_) (fun cc => absurd cc (by decide))
    refine lv_aload_n hx hb dX12_stay_51 rfl (lv_at hl 1 rfl) ?_
    refine va_callv (va_runV (As := []) (rest := []) ⟨hx, hb, hml, hown, hts⟩ (m_snap l dC dI ar cy _ hN st2 sl3  hG.1) (cwV 0 hts gX12_stay_X12_snap rfl rfl rfl (by decide +kernel) ⟨Nat.le_of_ble_eq_true rfl, Nat.le_of_ble_eq_true rfl⟩) ⟨fun a U g mk q => ⟨q.1, mPre.blind q.2⟩, va_recv hK hP (ci := 11) (q0 := 0) rfl rfl, fun U hU hW => ⟨rfl, mPre.of hP hK hU hW⟩⟩ rfl rfl hl.1 rfl (lv_room (Nat.le_of_ble_eq_true rfl)) dX12_stay_52 ⟨Nat.le_of_ble_eq_true rfl, Nat.le_of_ble_eq_true rfl⟩) hS (fun q _ h => MA.le hS.1 q h) (MA.le hS.1) (fun x t H locs ht hvm hw hB _ _ hS => ?_)
    have hP := mB.at ht hB
    clear hB ht hvm
    obtain ⟨st8, sl9⟩ := x
    obtain ⟨hG2, hL2, hw⟩ := hw
    have hL : LQ [7, 9] sl sl9 := hL.tr hL2 (by decide)
    clear hL2
    have hP : va_P (dC, dI) vwCl (mw ar cy st8 sl9) _ := hP
    have hG : MG [1, 2, 3, 4, 5, 6, 7, 8, 9, 10, 11, 12, 13, 14, 15, 16, 17, 19, 20, 21, 22, 23] st st8 := hG.tr hG2 (by decide)
    clear hG2
    clear hw
    refine lv_aload_n hx hb dX12_stay_55 rfl (lv_at hl 1 rfl) ?_
    refine va_callv (va_runV (As := []) (rest := []) ⟨hx, hb, hml, hown, hts⟩ (m_takeBack l dC dI ar cy _ hN st8 sl9  hG.1) (cwV 0 hts gX12_stay_X12_takeBack rfl rfl rfl (by decide +kernel) ⟨Nat.le_of_ble_eq_true rfl, Nat.le_of_ble_eq_true rfl⟩) ⟨fun a U g mk q => ⟨q.1, mPre.blind q.2⟩, va_recv hK hP (ci := 11) (q0 := 0) rfl rfl, fun U hU hW => ⟨rfl, mPre.of hP hK hU hW⟩⟩ rfl rfl hl.1 rfl (lv_room (Nat.le_of_ble_eq_true rfl)) dX12_stay_56 ⟨Nat.le_of_ble_eq_true rfl, Nat.le_of_ble_eq_true rfl⟩) hS (fun q _ h => MA.le hS.1 q h) (MA.le hS.1) (fun x t H locs ht hvm hw hB _ _ hS => ?_)
    have hP := mB.at ht hB
    clear hB ht hvm
    obtain ⟨st11, sl12⟩ := x
    obtain ⟨hG2, hL2, hw⟩ := hw
    have hL : LQ [7, 9] sl sl12 := hL.tr hL2 (by decide)
    clear hL2
    have hP : va_P (dC, dI) vwCl (mw ar cy st11 sl12) _ := hP
    have hG : MG [1, 2, 3, 4, 5, 6, 7, 8, 9, 10, 11, 12, 13, 14, 15, 16, 17, 19, 20, 21, 22, 23] st st11 := hG.tr hG2 (by decide)
    clear hG2
    clear hw
    exact W.vret hx hb hr (fun t ht hW => ⟨⟨(st11, sl12), rfl, ⟨hG, hL, trivial⟩, mB.of ht hP⟩, hS.F ht⟩) hS.2.2 dX12_stay_59
  · have c1 : ¬ 70 ≤ k1 := fun hh => c1 ((nI_leI (a := 70) (b := k1) (by omega) (by omega)).mpr hh)
    refine lv_aload_n hx hb dX12_stay_8 rfl (lv_at hl 1 rfl) ?_
    refine va_get (D := (dC, dI)) (ci := 11) (v := .ref (ar 2)) (C := RX12) (T := TX12) (N := 47) hx hb hts ii_X12_stay hown hK hP 0 rfl rfl 14 (by decide) (hts _ mm_X12_stay_1) (fun _ hh => hh) rfl dX12_stay_9 ?_
    refine lv_bipush (v := 61) hx hb dX12_stay_12 (by decide) ?_
    refine lv_iload_n hx hb dX12_stay_14 rfl (lv_at hl 0 rfl) ?_
    refine lv_iadd hx hb dX12_stay_15 ?_
    refine zz_top (v := nI (61 + k1)) (nI_add 61 k1) ?_
    refine va_iald hx hb hK hP 2 1 rfl rfl (i := (nI (61 + k1))) (vp_in_nI (by omega) (by decide)) dX12_stay_16 ?_
    refine zz_top (v := st2 2 (61 + k1)) (by rw [nI_clamp (by omega)]) ?_
    have hIst2 := hG.1
    refine lv_istore_n (lv' := [(3, .int (st2 2 (61 + k1))), (2, .int (nI k1)), (0, .ref (ar 0)), (1, .int 1)]) hx hb dX12_stay_17 rfl hl (by decide) rfl (fun ls hl => ?_)
    refine lv_aload_n hx hb dX12_stay_18 rfl (lv_at hl 2 rfl) ?_
    refine va_get (D := (dC, dI)) (ci := 11) (v := .ref (ar 2)) (C := RX12) (T := TX12) (N := 47) hx hb hts ii_X12_stay hown hK hP 0 rfl rfl 14 (by decide) (hts _ mm_X12_stay_1) (fun _ hh => hh) rfl dX12_stay_19 ?_
    refine lv_bipush (v := 61) hx hb dX12_stay_22 (by decide) ?_
    refine lv_iload_n hx hb dX12_stay_24 rfl (lv_at hl 1 rfl) ?_
    refine lv_iadd hx hb dX12_stay_25 ?_
    refine zz_top (v := nI (61 + k1)) (nI_add 61 k1) ?_
    refine lv_aload_n hx hb dX12_stay_26 rfl (lv_at hl 2 rfl) ?_
    refine va_get (D := (dC, dI)) (ci := 11) (v := .ref (ar 6)) (C := RX12) (T := TX12) (N := 47) hx hb hts ii_X12_stay hown hK hP 0 rfl rfl 18 (by decide) (hts _ mm_X12_stay_2) (fun _ hh => hh) rfl dX12_stay_27 ?_
    refine lv_iload_n hx hb dX12_stay_30 rfl (lv_at hl 1 rfl) ?_
    refine va_iald hx hb hK hP 6 5 rfl rfl (i := (nI k1)) (vp_in_nI (by omega) (by decide)) dX12_stay_31 ?_
    refine zz_top (v := st2 6 k1) (by rw [nI_clamp (by omega)]) ?_
    have hIst2 := hG.1
    refine va_iast hx hb hK hP (mD hN _ _ _ _) hS 2 1 rfl rfl (i := (nI (61 + k1))) (vp_in_nI (by omega) (by decide)) dX12_stay_32 (fun H locs hP _ hS => ?_)
    rw [nI_clamp (by omega)] at hP
    have hP : va_P (dC, dI) vwCl (mw ar cy (up2 st2 2 (61 + k1) (st2 6 k1)) sl3) H := hP
    obtain ⟨st13, hP, hG⟩ : ∃ y, va_P (dC, dI) vwCl (mw ar cy y sl3) H ∧ MG [1, 2, 3, 4, 5, 6, 7, 8, 9, 10, 11, 12, 13, 14, 15, 16, 17, 19, 20, 21, 22, 23] st y := ⟨up2 st2 2 (61 + k1) (st2 6 k1), hP, hG.up (rc hIst2 (rfl)) (pn (pcl_2_61_131 (61 + k1) (by omega) (by omega)) (by decide))⟩
    refine lv_aload_n hx hb dX12_stay_33 rfl (lv_at hl 2 rfl) ?_
    refine va_get (D := (dC, dI)) (ci := 11) (v := .ref (ar 6)) (C := RX12) (T := TX12) (N := 47) hx hb hts ii_X12_stay hown hK hP 0 rfl rfl 18 (by decide) (hts _ mm_X12_stay_2) (fun _ hh => hh) rfl dX12_stay_34 ?_
    refine lv_iload_n hx hb dX12_stay_37 rfl (lv_at hl 1 rfl) ?_
    refine lv_iload_n hx hb dX12_stay_38 rfl (lv_at hl 0 rfl) ?_
    refine va_iast hx hb hK hP (mD hN _ _ _ _) hS 6 5 rfl rfl (i := (nI k1)) (vp_in_nI (by omega) (by decide)) dX12_stay_39 (fun H locs hP _ hS => ?_)
    rw [nI_clamp (by omega)] at hP
    have hP : va_P (dC, dI) vwCl (mw ar cy (up2 st13 6 k1 (st2 2 (61 + k1))) sl3) H := hP
    obtain ⟨st14, hP, hG⟩ : ∃ y, va_P (dC, dI) vwCl (mw ar cy y sl3) H ∧ MG [1, 2, 3, 4, 5, 6, 7, 8, 9, 10, 11, 12, 13, 14, 15, 16, 17, 19, 20, 21, 22, 23] st y := ⟨up2 st13 6 k1 (st2 2 (61 + k1)), hP, hG.up (rc hIst2 (rfl)) (pn (pcl_6_0_70 k1 (by omega) (by omega)) (by decide))⟩
    refine lv_iinc (v := (nI (k1 + 1))) (lv' := [(2, .int (nI (k1 + 1))), (3, .int (st2 2 (61 + k1))), (0, .ref (ar 0)), (1, .int 1)]) hx hb dX12_stay_40 hl (k := 1) rfl (nI_add k1 1) (by decide) rfl (fun ls hl => ?_)
    refine lv_goto (tgt := 2) hx hb dX12_stay_43 (by decide) ?_
    exact ih6 (71 - (k1 + 1)) _ _ _ _ (by omega) ⟨(k1 + 1), st14, sl3, rfl, by omega, by omega, hP, hG, hL, hS, lv_sub hl [0, 2, 3] rfl, rfl⟩
set_option maxHeartbeats 4000000 in
set_option maxRecDepth 100000 in
theorem m_isInX (l : Launch) (dC : Nat → ClassId) (dI : Nat → Nat → Nat) (ar : Nat → Nat) (cy : Nat → ClassId) (sz : Nat) (hN : MN ar) (st : Nat → Nat → Int32) (sl : Nat → Nat → Int64) (vv : Int32) (va : Int32) (vb : Int32) (hI : MI st) : Met l yX12_isIn wsX12_isIn ({ frames := 0, cells := 0, slots := 0, locals := 0 }) (va_Pc [.int vv, .int va, .int vb] (mPre dC dI ar cy sz st sl)) (va_Qi (fun (r : Int32) (x : MT) => x = (st, sl) ∧ ((r = 1 ∧ va ≤ vv ∧ vv ≤ vb) ∨ (r = 0 ∧ ¬ (va ≤ vv ∧ vv ≤ vb)))) (mB dC dI ar cy) (MA ar sz)) 0 0 (MA ar sz) := by
  refine Met.ofW (cc := cX12_isIn) (maxL := 3) (ret := (some .boolean)) (by decide) rfl ?_
  intro p e s m args below meth c s₁ B hml hv
  obtain ⟨rfl, hsz, hP, hK⟩ := hv
  have hx := B.exec
  have hb := B.bytes
  have hr := B.returns
  have hts := atoms_spec (ws := wsX12_isIn) B.pre
  have hown : s.vm.findClass RX12 = some m.cls := findClass_of_methodNamed B.named
  subst hsz
  have hS : va_S (MA ar s.heap.size) s.heap s.heap [] := va_S.rf
  have hG : MG [1, 2, 3, 4, 5, 6, 7, 8, 9, 10, 11, 12, 13, 14, 15, 16, 17, 19, 20, 21, 22, 23] st st := MG.rf hI
  have hl := lv_entry ([.int vv, .int va, .int vb]) (n := 3) (Nat.le_of_ble_eq_true rfl)
  rw [lg_entry_eq]
  generalize (lg_sl ([.int vv, .int va, .int vb]) ++ List.replicate (3 - (lg_sl ([.int vv, .int va, .int vb])).length) Slot.unset).toArray = ls at hl ⊢
  have hl : lv_has ls 3 [(0, .int vv), (1, .int va), (2, .int vb)] := hl
  clear hI
  refine lv_iload_n hx hb dX12_isIn_0 rfl (lv_at hl 0 rfl) ?_
  refine lv_iload_n hx hb dX12_isIn_1 rfl (lv_at hl 1 rfl) ?_
  refine lv_icmp_lt (tgt := 14) hx hb dX12_isIn_2 (by decide) (fun c1 => ?_) (fun c1 => ?_)
  · refine lv_iconst (v := 0) hx hb dX12_isIn_14 (by decide) ?_
    exact W.zret (v := 0) hx hb hr rfl (fun t ht hW => ⟨⟨0, (st, sl), rfl, ⟨rfl, Or.inr ⟨rfl, fun hh => absurd c1 (Int32.not_lt.mpr hh.1)⟩⟩, mB.of ht hP⟩, hS.F ht⟩) hS.2.2 dX12_isIn_15
  · refine lv_iload_n hx hb dX12_isIn_5 rfl (lv_at hl 0 rfl) ?_
    refine lv_iload_n hx hb dX12_isIn_6 rfl (lv_at hl 2 rfl) ?_
    refine lv_icmp_gt (tgt := 14) hx hb dX12_isIn_7 (by decide) (fun c2 => ?_) (fun c2 => ?_)
    · refine lv_iconst (v := 0) hx hb dX12_isIn_14 (by decide) ?_
      exact W.zret (v := 0) hx hb hr rfl (fun t ht hW => ⟨⟨0, (st, sl), rfl, ⟨rfl, Or.inr ⟨rfl, fun hh => absurd c2 (Int32.not_lt.mpr hh.2)⟩⟩, mB.of ht hP⟩, hS.F ht⟩) hS.2.2 dX12_isIn_15
    · refine lv_iconst (v := 1) hx hb dX12_isIn_10 (by decide) ?_
      refine lv_goto (tgt := 15) hx hb dX12_isIn_11 (by decide) ?_
      exact W.zret (v := 1) hx hb hr rfl (fun t ht hW => ⟨⟨1, (st, sl), rfl, ⟨rfl, Or.inl ⟨rfl, Int32.not_lt.mp c1, Int32.not_lt.mp c2⟩⟩, mB.of ht hP⟩, hS.F ht⟩) hS.2.2 dX12_isIn_15
