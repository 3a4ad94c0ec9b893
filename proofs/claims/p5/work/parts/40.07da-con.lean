set_option maxHeartbeats 4000000 in
set_option maxRecDepth 100000 in
theorem m_isSignA (l : Launch) (dC : Nat → ClassId) (dI : Nat → Nat → Nat) (ar : Nat → Nat) (cy : Nat → ClassId) (sz : Nat) (hN : MN ar) (st : Nat → Nat → Int32) (sl : Nat → Nat → Int64) (va : Int32) (hI : MI st) : Met l yX12_isSign wsX12_isSign ({ frames := 0, cells := 0, slots := 0, locals := 0 }) (va_Pc [.ref (ar 0), .int va] (mPre dC dI ar cy sz st sl)) (va_Qi (fun (r : Int32) (x : MT) => x = (st, sl) ∧ (True)) (mB dC dI ar cy) (MA ar sz)) 0 0 (MA ar sz) := by
  refine Met.ofW (cc := cX12_isSign) (maxL := 2) (ret := (some .boolean)) (by decide) rfl ?_
  intro p e s m args below meth c s₁ B hml hv
  obtain ⟨rfl, hsz, hP, hK⟩ := hv
  have hx := B.exec
  have hb := B.bytes
  have hr := B.returns
  have hts := atoms_spec (ws := wsX12_isSign) B.pre
  have hown : s.vm.findClass RX12 = some m.cls := findClass_of_methodNamed B.named
  subst hsz
  have hS : va_S (MA ar s.heap.size) s.heap s.heap [] := va_S.rf
  have hG : MG [1, 2, 3, 4, 5, 6, 7, 8, 9, 10, 11, 12, 13, 14, 15, 16, 17, 19, 20, 21, 22, 23] st st := MG.rf hI
  have hl := lv_entry ([.ref (ar 0), .int va]) (n := 2) (Nat.le_of_ble_eq_true rfl)
  rw [lg_entry_eq]
  generalize (lg_sl ([.ref (ar 0), .int va]) ++ List.replicate (2 - (lg_sl ([.ref (ar 0), .int va])).length) Slot.unset).toArray = ls at hl ⊢
  have hl : lv_has ls 2 [(0, .ref (ar 0)), (1, .int va)] := hl
  clear hI
  refine lv_aload_n hx hb dX12_isSign_0 rfl (lv_at hl 0 rfl) ?_
  refine va_get (D := (dC, dI)) (ci := 11) (v := .int (st 0 7)) (C := RX12) (T := TX12) (N := 47) hx hb hts ii_X12_isSign hown hK hP 0 rfl rfl 7 (by decide) (hts _ mm_X12_isSign_1) (fun _ hh => hh) rfl dX12_isSign_1 ?_
  refine lv_topi (fun z1 ez1 => ?_)
  clear ez1
  refine lv_iconst (v := 4) hx hb dX12_isSign_4 (by decide) ?_
  refine lv_icmp_ne (tgt := 20) hx hb dX12_isSign_5 (by decide) (fun c1 => ?_) (fun c1 => ?_)
  · refine lv_iconst (v := 0) hx hb dX12_isSign_20 (by decide) ?_
    exact W.zret (v := 0) hx hb hr rfl (fun t ht hW => ⟨⟨0, (st, sl), rfl, ⟨rfl, trivial⟩, mB.of ht hP⟩, hS.F ht⟩) hS.2.2 dX12_isSign_21
  · refine lv_aload_n hx hb dX12_isSign_8 rfl (lv_at hl 0 rfl) ?_
    refine va_get (D := (dC, dI)) (ci := 11) (v := .int (st 0 9)) (C := RX12) (T := TX12) (N := 47) hx hb hts ii_X12_isSign hown hK hP 0 rfl rfl 9 (by decide) (hts _ mm_X12_isSign_2) (fun _ hh => hh) rfl dX12_isSign_9 ?_
    refine lv_topi (fun z2 ez2 => ?_)
    clear ez2
    refine lv_iload_n hx hb dX12_isSign_12 rfl (lv_at hl 1 rfl) ?_
    refine lv_icmp_ne (tgt := 20) hx hb dX12_isSign_13 (by decide) (fun c2 => ?_) (fun c2 => ?_)
    · refine lv_iconst (v := 0) hx hb dX12_isSign_20 (by decide) ?_
      exact W.zret (v := 0) hx hb hr rfl (fun t ht hW => ⟨⟨0, (st, sl), rfl, ⟨rfl, trivial⟩, mB.of ht hP⟩, hS.F ht⟩) hS.2.2 dX12_isSign_21
    · refine lv_iconst (v := 1) hx hb dX12_isSign_16 (by decide) ?_
      refine lv_goto (tgt := 21) hx hb dX12_isSign_17 (by decide) ?_
      exact W.zret (v := 1) hx hb hr rfl (fun t ht hW => ⟨⟨1, (st, sl), rfl, ⟨rfl, trivial⟩, mB.of ht hP⟩, hS.F ht⟩) hS.2.2 dX12_isSign_21
set_option maxHeartbeats 4000000 in
set_option maxRecDepth 100000 in
theorem m_saysOne1 (l : Launch) (dC : Nat → ClassId) (dI : Nat → Nat → Nat) (ar : Nat → Nat) (cy : Nat → ClassId) (sz : Nat) (hN : MN ar) (st : Nat → Nat → Int32) (sl : Nat → Nat → Int64) (va2 : Nat) (vb : Int32) (vr : Int32) (gn : Nat) (hva2 : va2 < 60) (hI : MI st) (h43 : st 0 43 = nI gn) (hgn : gn < 60) (hNK : NKm st) (ha : va2 < gn) : Met l yX12_saysOne wsX12_saysOne ({ frames := 0, cells := 0, slots := 0, locals := 0 }) (va_Pc [.ref (ar 0), .int 1, .int (nI va2), .int vb, .int vr] (mPre dC dI ar cy sz st sl)) (va_Qi (fun (r : Int32) (x : MT) => MG [1, 2, 3, 4, 5, 6, 7, 10, 11, 12, 13, 14, 15, 16, 17, 19, 20, 21, 22, 23] st x.1 ∧ LQ [7, 9] sl x.2 ∧ (∃ n : Nat, r = nI n ∧ n = gn ∧ x.1 0 43 = nI (gn + 1) ∧ NKm x.1)) (mB dC dI ar cy) (MA ar sz)) 0 0 (MA ar sz) := by
  refine Met.ofW (cc := cX12_saysOne) (maxL := 6) (ret := (some .int)) (by decide) rfl ?_
  intro p e s m args below meth c s₁ B hml hv
  obtain ⟨rfl, hsz, hP, hK⟩ := hv
  have hx := B.exec
  have hb := B.bytes
  have hr := B.returns
  have hts := atoms_spec (ws := wsX12_saysOne) B.pre
  have hown : s.vm.findClass RX12 = some m.cls := findClass_of_methodNamed B.named
  subst hsz
  have hS : va_S (MA ar s.heap.size) s.heap s.heap [] := va_S.rf
  have hG : MG [1, 2, 3, 4, 5, 6, 7, 10, 11, 12, 13, 14, 15, 16, 17, 19, 20, 21, 22, 23] st st := MG.rf hI
  have hl := lv_entry ([.ref (ar 0), .int 1, .int (nI va2), .int vb, .int vr]) (n := 6) (Nat.le_of_ble_eq_true rfl)
  rw [lg_entry_eq]
  generalize (lg_sl ([.ref (ar 0), .int 1, .int (nI va2), .int vb, .int vr]) ++ List.replicate (6 - (lg_sl ([.ref (ar 0), .int 1, .int (nI va2), .int vb, .int vr])).length) Slot.unset).toArray = ls at hl ⊢
  have hl : lv_has ls 6 [(0, .ref (ar 0)), (1, .int 1), (2, .int (nI va2)), (3, .int vb), (4, .int vr)] := hl
  clear hI
  have hL : LQ [7, 9] sl sl := LQ.rf
  refine lv_iconst (v := 4) hx hb dX12_saysOne_0 (by decide) ?_
  refine lv_aload_n hx hb dX12_saysOne_1 rfl (lv_at hl 0 rfl) ?_
  refine va_get (D := (dC, dI)) (ci := 11) (v := .int (st 0 43)) (C := RX12) (T := TX12) (N := 47) hx hb hts ii_X12_saysOne hown hK hP 0 rfl rfl 43 (by decide) (hts _ mm_X12_saysOne_1) (fun _ hh => hh) rfl dX12_saysOne_2 ?_
  refine zz_top (v := (nI gn)) (by show st 0 43 = _; rw [h43]) ?_
  refine lv_imul hx hb dX12_saysOne_5 ?_
  refine zz_top (v := nI (4 * gn)) (nI_mul 4 gn) ?_
  refine lv_istore (lv' := [(5, .int (nI (4 * gn))), (0, .ref (ar 0)), (1, .int 1), (2, .int (nI va2)), (3, .int vb), (4, .int vr)]) hx hb dX12_saysOne_6 hl (by decide) rfl (fun ls hl => ?_)
  refine lv_aload_n hx hb dX12_saysOne_8 rfl (lv_at hl 1 rfl) ?_
  refine va_get (D := (dC, dI)) (ci := 11) (v := .ref (ar 16)) (C := RX12) (T := TX12) (N := 47) hx hb hts ii_X12_saysOne hown hK hP 0 rfl rfl 42 (by decide) (hts _ mm_X12_saysOne_2) (fun _ hh => hh) rfl dX12_saysOne_9 ?_
  refine lv_iload hx hb dX12_saysOne_12 (lv_at hl 0 rfl) ?_
  refine lv_iload_n hx hb dX12_saysOne_14 rfl (lv_at hl 2 rfl) ?_
  refine va_iast hx hb hK hP (mD hN _ _ _ _) hS 16 15 rfl rfl (i := (nI (4 * gn))) (vp_in_nI (by omega) (by decide)) dX12_saysOne_15 (fun H locs hP _ hS => ?_)
  rw [nI_clamp (by omega)] at hP
  have hP : va_P (dC, dI) vwCl (mw ar cy (up2 st 16 (4 * gn) 1) sl) H := hP
  obtain ⟨st1, est1⟩ : ∃ y, y = up2 st 16 (4 * gn) 1 := ⟨_, rfl⟩
  have hG : MG [1, 2, 3, 4, 5, 6, 7, 10, 11, 12, 13, 14, 15, 16, 17, 19, 20, 21, 22, 23] st st1 := by rw [est1]; exact hG.up (rz (mr_16_0_237 (4 * gn) (by omega) (by omega))) (pn (pcl_16_0_237 (4 * gn) (by omega) (by omega)) (by decide))
  rw [← est1] at hP
  refine lv_aload_n hx hb dX12_saysOne_16 rfl (lv_at hl 1 rfl) ?_
  refine va_get (D := (dC, dI)) (ci := 11) (v := .ref (ar 16)) (C := RX12) (T := TX12) (N := 47) hx hb hts ii_X12_saysOne hown hK hP 0 rfl rfl 42 (by decide) (hts _ mm_X12_saysOne_2) (fun _ hh => hh) rfl dX12_saysOne_17 ?_
  refine lv_iload hx hb dX12_saysOne_20 (lv_at hl 0 rfl) ?_
  refine lv_iconst (v := 1) hx hb dX12_saysOne_22 (by decide) ?_
  refine lv_iadd hx hb dX12_saysOne_23 ?_
  refine zz_top (v := nI ((4 * gn) + 1)) (nI_add (4 * gn) 1) ?_
  refine lv_iload_n hx hb dX12_saysOne_24 rfl (lv_at hl 3 rfl) ?_
  refine va_iast hx hb hK hP (mD hN _ _ _ _) hS 16 15 rfl rfl (i := (nI ((4 * gn) + 1))) (vp_in_nI (by omega) (by decide)) dX12_saysOne_25 (fun H locs hP _ hS => ?_)
  rw [nI_clamp (by omega)] at hP
  have hP : va_P (dC, dI) vwCl (mw ar cy (up2 st1 16 ((4 * gn) + 1) (nI va2)) sl) H := hP
  obtain ⟨st2, est2⟩ : ∃ y, y = up2 st1 16 ((4 * gn) + 1) (nI va2) := ⟨_, rfl⟩
  have hG : MG [1, 2, 3, 4, 5, 6, 7, 10, 11, 12, 13, 14, 15, 16, 17, 19, 20, 21, 22, 23] st st2 := by rw [est2]; exact hG.up (rz (mr_16_1_238 ((4 * gn) + 1) (by omega) (by omega))) (pn (pcl_16_1_238 ((4 * gn) + 1) (by omega) (by omega)) (by decide))
  rw [← est2] at hP
  refine lv_aload_n hx hb dX12_saysOne_26 rfl (lv_at hl 1 rfl) ?_
  refine va_get (D := (dC, dI)) (ci := 11) (v := .ref (ar 16)) (C := RX12) (T := TX12) (N := 47) hx hb hts ii_X12_saysOne hown hK hP 0 rfl rfl 42 (by decide) (hts _ mm_X12_saysOne_2) (fun _ hh => hh) rfl dX12_saysOne_27 ?_
  refine lv_iload hx hb dX12_saysOne_30 (lv_at hl 0 rfl) ?_
  refine lv_iconst (v := 2) hx hb dX12_saysOne_32 (by decide) ?_
  refine lv_iadd hx hb dX12_saysOne_33 ?_
  refine zz_top (v := nI ((4 * gn) + 2)) (nI_add (4 * gn) 2) ?_
  refine lv_iload_n hx hb dX12_saysOne_34 rfl (lv_at hl 4 rfl) ?_
  refine va_iast hx hb hK hP (mD hN _ _ _ _) hS 16 15 rfl rfl (i := (nI ((4 * gn) + 2))) (vp_in_nI (by omega) (by decide)) dX12_saysOne_35 (fun H locs hP _ hS => ?_)
  rw [nI_clamp (by omega)] at hP
  have hP : va_P (dC, dI) vwCl (mw ar cy (up2 st2 16 ((4 * gn) + 2) vb) sl) H := hP
  obtain ⟨st3, est3⟩ : ∃ y, y = up2 st2 16 ((4 * gn) + 2) vb := ⟨_, rfl⟩
  have hG : MG [1, 2, 3, 4, 5, 6, 7, 10, 11, 12, 13, 14, 15, 16, 17, 19, 20, 21, 22, 23] st st3 := by rw [est3]; exact hG.up (rz (mr_16_2_239 ((4 * gn) + 2) (by omega) (by omega))) (pn (pcl_16_2_239 ((4 * gn) + 2) (by omega) (by omega)) (by decide))
  rw [← est3] at hP
  refine lv_aload_n hx hb dX12_saysOne_36 rfl (lv_at hl 1 rfl) ?_
  refine va_get (D := (dC, dI)) (ci := 11) (v := .ref (ar 16)) (C := RX12) (T := TX12) (N := 47) hx hb hts ii_X12_saysOne hown hK hP 0 rfl rfl 42 (by decide) (hts _ mm_X12_saysOne_2) (fun _ hh => hh) rfl dX12_saysOne_37 ?_
  refine lv_iload hx hb dX12_saysOne_40 (lv_at hl 0 rfl) ?_
  refine lv_iconst (v := 3) hx hb dX12_saysOne_42 (by decide) ?_
  refine lv_iadd hx hb dX12_saysOne_43 ?_
  refine zz_top (v := nI ((4 * gn) + 3)) (nI_add (4 * gn) 3) ?_
  refine lv_iload hx hb dX12_saysOne_44 (lv_at hl 5 rfl) ?_
  refine va_iast hx hb hK hP (mD hN _ _ _ _) hS 16 15 rfl rfl (i := (nI ((4 * gn) + 3))) (vp_in_nI (by omega) (by decide)) dX12_saysOne_46 (fun H locs hP _ hS => ?_)
  rw [nI_clamp (by omega)] at hP
  have hP : va_P (dC, dI) vwCl (mw ar cy (up2 st3 16 ((4 * gn) + 3) vr) sl) H := hP
  obtain ⟨st4, est4⟩ : ∃ y, y = up2 st3 16 ((4 * gn) + 3) vr := ⟨_, rfl⟩
  have hG : MG [1, 2, 3, 4, 5, 6, 7, 10, 11, 12, 13, 14, 15, 16, 17, 19, 20, 21, 22, 23] st st4 := by rw [est4]; exact hG.up (rz (mr_16_3_240 ((4 * gn) + 3) (by omega) (by omega))) (pn (pcl_16_3_240 ((4 * gn) + 3) (by omega) (by omega)) (by decide))
  rw [← est4] at hP
  refine lv_aload_n hx hb dX12_saysOne_47 rfl (lv_at hl 1 rfl) ?_
  refine lv_dup hx hb dX12_saysOne_48 rfl ?_
  refine va_get (D := (dC, dI)) (ci := 11) (v := .int (st4 0 43)) (C := RX12) (T := TX12) (N := 47) hx hb hts ii_X12_saysOne hown hK hP 0 rfl rfl 43 (by decide) (hts _ mm_X12_saysOne_1) (fun _ hh => hh) rfl dX12_saysOne_49 ?_
  refine zz_top (v := (nI gn)) (by show st4 0 43 = _; rw [est4, up2_ne (r := 16) (k := ((4 * gn) + 3)) (a := 0) (j := 43) _ _ (by omega), est3, up2_ne (r := 16) (k := ((4 * gn) + 2)) (a := 0) (j := 43) _ _ (by omega), est2, up2_ne (r := 16) (k := ((4 * gn) + 1)) (a := 0) (j := 43) _ _ (by omega), est1, up2_ne (r := 16) (k := (4 * gn)) (a := 0) (j := 43) _ _ (by omega), h43]) ?_
  refine lv_iconst (v := 1) hx hb dX12_saysOne_52 (by decide) ?_
  refine lv_iadd hx hb dX12_saysOne_53 ?_
  refine zz_top (v := nI (gn + 1)) (nI_add gn 1) ?_
  refine va_put (D := (dC, dI)) (ci := 11) (v := .int (nI (gn + 1))) (ty := .int) (C := RX12) (T := TX12) (N := 47) hx hb hts ii_X12_saysOne tyX12 tyX12_ok nmX12 hown hK hP (mD hN _ _ _ _) hS 0 rfl rfl 43 (by decide) (hts _ mm_X12_saysOne_1) (fun _ hh => hh) rfl (by decide +kernel) rfl rfl (Nat.le_of_ble_eq_true rfl) dX12_saysOne_54 (fun H locs hP _ hS => ?_)
  have hP : va_P (dC, dI) vwCl (mw ar cy (up2 st4 0 43 (nI (gn + 1))) sl) H := hP
  obtain ⟨st5, est5⟩ : ∃ y, y = up2 st4 0 43 (nI (gn + 1)) := ⟨_, rfl⟩
  have hG : MG [1, 2, 3, 4, 5, 6, 7, 10, 11, 12, 13, 14, 15, 16, 17, 19, 20, 21, 22, 23] st st5 := by rw [est5]; exact hG.up (rn (n := (gn + 1)) (by decide : mr 0 43 = 61) (by omega)) (pn (by decide : pcl 0 43 = 9) (by decide))
  rw [← est5] at hP
  refine lv_aload_n hx hb dX12_saysOne_57 rfl (lv_at hl 1 rfl) ?_
  refine va_get (D := (dC, dI)) (ci := 11) (v := .int (st5 0 43)) (C := RX12) (T := TX12) (N := 47) hx hb hts ii_X12_saysOne hown hK hP 0 rfl rfl 43 (by decide) (hts _ mm_X12_saysOne_1) (fun _ hh => hh) rfl dX12_saysOne_58 ?_
  refine zz_top (v := (nI (gn + 1))) (by show st5 0 43 = _; rw [est5, up2_same]) ?_
  refine lv_iconst (v := 1) hx hb dX12_saysOne_61 (by decide) ?_
  refine lv_isub hx hb dX12_saysOne_62 ?_
  refine zz_top (v := nI ((gn + 1) - 1)) (nI_subN (a := (gn + 1)) (b := 1) (by omega) (by omega)) ?_
  have hE0 : st5 16 (4 * gn) = 1 := by rw [est5, up2_ne (r := 0) (k := 43) (a := 16) (j := (4 * gn)) _ _ (by omega), est4, up2_ne (r := 16) (k := ((4 * gn) + 3)) (a := 16) (j := (4 * gn)) _ _ (by omega), est3, up2_ne (r := 16) (k := ((4 * gn) + 2)) (a := 16) (j := (4 * gn)) _ _ (by omega), est2, up2_ne (r := 16) (k := ((4 * gn) + 1)) (a := 16) (j := (4 * gn)) _ _ (by omega), est1, up2_same]
  have hE1 : st5 16 (4 * gn + 1) = (nI va2) := by rw [est5, up2_ne (r := 0) (k := 43) (a := 16) (j := ((4 * gn) + 1)) _ _ (by omega), est4, up2_ne (r := 16) (k := ((4 * gn) + 3)) (a := 16) (j := ((4 * gn) + 1)) _ _ (by omega), est3, up2_ne (r := 16) (k := ((4 * gn) + 2)) (a := 16) (j := ((4 * gn) + 1)) _ _ (by omega), est2, up2_same]
  have hE2 : st5 16 (4 * gn + 2) = vb := by rw [est5, up2_ne (r := 0) (k := 43) (a := 16) (j := ((4 * gn) + 2)) _ _ (by omega), est4, up2_ne (r := 16) (k := ((4 * gn) + 3)) (a := 16) (j := ((4 * gn) + 2)) _ _ (by omega), est3, up2_same]
  have hnk : NKm st5 := NKf.put (n := gn) hNK (fun jj hk => by show st5 16 jj = st 16 jj; rw [est5, up2_ne (r := 0) (k := 43) (a := 16) (j := jj) _ _ (by omega), est4, up2_ne (r := 16) (k := ((4 * gn) + 3)) (a := 16) (j := jj) _ _ (by omega), est3, up2_ne (r := 16) (k := ((4 * gn) + 2)) (a := 16) (j := jj) _ _ (by omega), est2, up2_ne (r := 16) (k := ((4 * gn) + 1)) (a := 16) (j := jj) _ _ (by omega), est1, up2_ne (r := 16) (k := (4 * gn)) (a := 16) (j := jj) _ _ (by omega)]) (fun _ => ⟨va2, by omega, hE1⟩) (fun hh => hh.elim (fun hh => absurd (hE0.symm.trans hh) (by decide)) (fun hh => absurd (hE0.symm.trans hh) (by decide))) (fun hh => absurd (hE0.symm.trans hh) (by decide))
  exact W.iret (v := (nI ((gn + 1) - 1))) hx hb hr (fun t ht hW => ⟨⟨(nI ((gn + 1) - 1)), (st5, sl), rfl, ⟨hG, hL, ⟨gn, rfl, rfl, by show st5 0 43 = _; rw [est5, up2_same], hnk⟩⟩, mB.of ht hP⟩, hS.F ht⟩) hS.2.2 dX12_saysOne_63
set_option maxHeartbeats 4000000 in
set_option maxRecDepth 100000 in
theorem m_saysOne2 (l : Launch) (dC : Nat → ClassId) (dI : Nat → Nat → Nat) (ar : Nat → Nat) (cy : Nat → ClassId) (sz : Nat) (hN : MN ar) (st : Nat → Nat → Int32) (sl : Nat → Nat → Int64) (va2 : Nat) (vb2 : Nat) (vr : Int32) (gn : Nat) (hva2 : va2 < 60) (hvb2 : vb2 < 60) (hI : MI st) (h43 : st 0 43 = nI gn) (hgn : gn < 60) (hNK : NKm st) (ha : va2 < gn) (hb2 : vb2 < gn) : Met l yX12_saysOne wsX12_saysOne ({ frames := 0, cells := 0, slots := 0, locals := 0 }) (va_Pc [.ref (ar 0), .int 2, .int (nI va2), .int (nI vb2), .int vr] (mPre dC dI ar cy sz st sl)) (va_Qi (fun (r : Int32) (x : MT) => MG [1, 2, 3, 4, 5, 6, 7, 10, 11, 12, 13, 14, 15, 16, 17, 19, 20, 21, 22, 23] st x.1 ∧ LQ [7, 9] sl x.2 ∧ (∃ n : Nat, r = nI n ∧ n = gn ∧ x.1 0 43 = nI (gn + 1) ∧ NKm x.1)) (mB dC dI ar cy) (MA ar sz)) 0 0 (MA ar sz) := by
  refine Met.ofW (cc := cX12_saysOne) (maxL := 6) (ret := (some .int)) (by decide) rfl ?_
  intro p e s m args below meth c s₁ B hml hv
  obtain ⟨rfl, hsz, hP, hK⟩ := hv
  have hx := B.exec
  have hb := B.bytes
  have hr := B.returns
  have hts := atoms_spec (ws := wsX12_saysOne) B.pre
  have hown : s.vm.findClass RX12 = some m.cls := findClass_of_methodNamed B.named
  subst hsz
  have hS : va_S (MA ar s.heap.size) s.heap s.heap [] := va_S.rf
  have hG : MG [1, 2, 3, 4, 5, 6, 7, 10, 11, 12, 13, 14, 15, 16, 17, 19, 20, 21, 22, 23] st st := MG.rf hI
  have hl := lv_entry ([.ref (ar 0), .int 2, .int (nI va2), .int (nI vb2), .int vr]) (n := 6) (Nat.le_of_ble_eq_true rfl)
  rw [lg_entry_eq]
  generalize (lg_sl ([.ref (ar 0), .int 2, .int (nI va2), .int (nI vb2), .int vr]) ++ List.replicate (6 - (lg_sl ([.ref (ar 0), .int 2, .int (nI va2), .int (nI vb2), .int vr])).length) Slot.unset).toArray = ls at hl ⊢
  have hl : lv_has ls 6 [(0, .ref (ar 0)), (1, .int 2), (2, .int (nI va2)), (3, .int (nI vb2)), (4, .int vr)] := hl
  clear hI
  have hL : LQ [7, 9] sl sl := LQ.rf
  refine lv_iconst (v := 4) hx hb dX12_saysOne_0 (by decide) ?_
  refine lv_aload_n hx hb dX12_saysOne_1 rfl (lv_at hl 0 rfl) ?_
  refine va_get (D := (dC, dI)) (ci := 11) (v := .int (st 0 43)) (C := RX12) (T := TX12) (N := 47) hx hb hts ii_X12_saysOne hown hK hP 0 rfl rfl 43 (by decide) (hts _ mm_X12_saysOne_1) (fun _ hh => hh) rfl dX12_saysOne_2 ?_
  refine zz_top (v := (nI gn)) (by show st 0 43 = _; rw [h43]) ?_
  refine lv_imul hx hb dX12_saysOne_5 ?_
  refine zz_top (v := nI (4 * gn)) (nI_mul 4 gn) ?_
  refine lv_istore (lv' := [(5, .int (nI (4 * gn))), (0, .ref (ar 0)), (1, .int 2), (2, .int (nI va2)), (3, .int (nI vb2)), (4, .int vr)]) hx hb dX12_saysOne_6 hl (by decide) rfl (fun ls hl => ?_)
  refine lv_aload_n hx hb dX12_saysOne_8 rfl (lv_at hl 1 rfl) ?_
  refine va_get (D := (dC, dI)) (ci := 11) (v := .ref (ar 16)) (C := RX12) (T := TX12) (N := 47) hx hb hts ii_X12_saysOne hown hK hP 0 rfl rfl 42 (by decide) (hts _ mm_X12_saysOne_2) (fun _ hh => hh) rfl dX12_saysOne_9 ?_
  refine lv_iload hx hb dX12_saysOne_12 (lv_at hl 0 rfl) ?_
  refine lv_iload_n hx hb dX12_saysOne_14 rfl (lv_at hl 2 rfl) ?_
  refine va_iast hx hb hK hP (mD hN _ _ _ _) hS 16 15 rfl rfl (i := (nI (4 * gn))) (vp_in_nI (by omega) (by decide)) dX12_saysOne_15 (fun H locs hP _ hS => ?_)
  rw [nI_clamp (by omega)] at hP
  have hP : va_P (dC, dI) vwCl (mw ar cy (up2 st 16 (4 * gn) 2) sl) H := hP
  obtain ⟨st1, est1⟩ : ∃ y, y = up2 st 16 (4 * gn) 2 := ⟨_, rfl⟩
  have hG : MG [1, 2, 3, 4, 5, 6, 7, 10, 11, 12, 13, 14, 15, 16, 17, 19, 20, 21, 22, 23] st st1 := by rw [est1]; exact hG.up (rz (mr_16_0_237 (4 * gn) (by omega) (by omega))) (pn (pcl_16_0_237 (4 * gn) (by omega) (by omega)) (by decide))
  rw [← est1] at hP
  refine lv_aload_n hx hb dX12_saysOne_16 rfl (lv_at hl 1 rfl) ?_
  refine va_get (D := (dC, dI)) (ci := 11) (v := .ref (ar 16)) (C := RX12) (T := TX12) (N := 47) hx hb hts ii_X12_saysOne hown hK hP 0 rfl rfl 42 (by decide) (hts _ mm_X12_saysOne_2) (fun _ hh => hh) rfl dX12_saysOne_17 ?_
  refine lv_iload hx hb dX12_saysOne_20 (lv_at hl 0 rfl) ?_
  refine lv_iconst (v := 1) hx hb dX12_saysOne_22 (by decide) ?_
  refine lv_iadd hx hb dX12_saysOne_23 ?_
  refine zz_top (v := nI ((4 * gn) + 1)) (nI_add (4 * gn) 1) ?_
  refine lv_iload_n hx hb dX12_saysOne_24 rfl (lv_at hl 3 rfl) ?_
  refine va_iast hx hb hK hP (mD hN _ _ _ _) hS 16 15 rfl rfl (i := (nI ((4 * gn) + 1))) (vp_in_nI (by omega) (by decide)) dX12_saysOne_25 (fun H locs hP _ hS => ?_)
  rw [nI_clamp (by omega)] at hP
  have hP : va_P (dC, dI) vwCl (mw ar cy (up2 st1 16 ((4 * gn) + 1) (nI va2)) sl) H := hP
  obtain ⟨st2, est2⟩ : ∃ y, y = up2 st1 16 ((4 * gn) + 1) (nI va2) := ⟨_, rfl⟩
  have hG : MG [1, 2, 3, 4, 5, 6, 7, 10, 11, 12, 13, 14, 15, 16, 17, 19, 20, 21, 22, 23] st st2 := by rw [est2]; exact hG.up (rz (mr_16_1_238 ((4 * gn) + 1) (by omega) (by omega))) (pn (pcl_16_1_238 ((4 * gn) + 1) (by omega) (by omega)) (by decide))
  rw [← est2] at hP
  refine lv_aload_n hx hb dX12_saysOne_26 rfl (lv_at hl 1 rfl) ?_
  refine va_get (D := (dC, dI)) (ci := 11) (v := .ref (ar 16)) (C := RX12) (T := TX12) (N := 47) hx hb hts ii_X12_saysOne hown hK hP 0 rfl rfl 42 (by decide) (hts _ mm_X12_saysOne_2) (fun _ hh => hh) rfl dX12_saysOne_27 ?_
  refine lv_iload hx hb dX12_saysOne_30 (lv_at hl 0 rfl) ?_
  refine lv_iconst (v := 2) hx hb dX12_saysOne_32 (by decide) ?_
  refine lv_iadd hx hb dX12_saysOne_33 ?_
  refine zz_top (v := nI ((4 * gn) + 2)) (nI_add (4 * gn) 2) ?_
  refine lv_iload_n hx hb dX12_saysOne_34 rfl (lv_at hl 4 rfl) ?_
  refine va_iast hx hb hK hP (mD hN _ _ _ _) hS 16 15 rfl rfl (i := (nI ((4 * gn) + 2))) (vp_in_nI (by omega) (by decide)) dX12_saysOne_35 (fun H locs hP _ hS => ?_)
  rw [nI_clamp (by omega)] at hP
  have hP : va_P (dC, dI) vwCl (mw ar cy (up2 st2 16 ((4 * gn) + 2) (nI vb2)) sl) H := hP
  obtain ⟨st3, est3⟩ : ∃ y, y = up2 st2 16 ((4 * gn) + 2) (nI vb2) := ⟨_, rfl⟩
  have hG : MG [1, 2, 3, 4, 5, 6, 7, 10, 11, 12, 13, 14, 15, 16, 17, 19, 20, 21, 22, 23] st st3 := by rw [est3]; exact hG.up (rz (mr_16_2_239 ((4 * gn) + 2) (by omega) (by omega))) (pn (pcl_16_2_239 ((4 * gn) + 2) (by omega) (by omega)) (by decide))
  rw [← est3] at hP
  refine lv_aload_n hx hb dX12_saysOne_36 rfl (lv_at hl 1 rfl) ?_
  refine va_get (D := (dC, dI)) (ci := 11) (v := .ref (ar 16)) (C := RX12) (T := TX12) (N := 47) hx hb hts ii_X12_saysOne hown hK hP 0 rfl rfl 42 (by decide) (hts _ mm_X12_saysOne_2) (fun _ hh => hh) rfl dX12_saysOne_37 ?_
  refine lv_iload hx hb dX12_saysOne_40 (lv_at hl 0 rfl) ?_
  refine lv_iconst (v := 3) hx hb dX12_saysOne_42 (by decide) ?_
  refine lv_iadd hx hb dX12_saysOne_43 ?_
  refine zz_top (v := nI ((4 * gn) + 3)) (nI_add (4 * gn) 3) ?_
  refine lv_iload hx hb dX12_saysOne_44 (lv_at hl 5 rfl) ?_
  refine va_iast hx hb hK hP (mD hN _ _ _ _) hS 16 15 rfl rfl (i := (nI ((4 * gn) + 3))) (vp_in_nI (by omega) (by decide)) dX12_saysOne_46 (fun H locs hP _ hS => ?_)
  rw [nI_clamp (by omega)] at hP
  have hP : va_P (dC, dI) vwCl (mw ar cy (up2 st3 16 ((4 * gn) + 3) vr) sl) H := hP
  obtain ⟨st4, est4⟩ : ∃ y, y = up2 st3 16 ((4 * gn) + 3) vr := ⟨_, rfl⟩
  have hG : MG [1, 2, 3, 4, 5, 6, 7, 10, 11, 12, 13, 14, 15, 16, 17, 19, 20, 21, 22, 23] st st4 := by rw [est4]; exact hG.up (rz (mr_16_3_240 ((4 * gn) + 3) (by omega) (by omega))) (pn (pcl_16_3_240 ((4 * gn) + 3) (by omega) (by omega)) (by decide))
  rw [← est4] at hP
  refine lv_aload_n hx hb dX12_saysOne_47 rfl (lv_at hl 1 rfl) ?_
  refine lv_dup hx hb dX12_saysOne_48 rfl ?_
  refine va_get (D := (dC, dI)) (ci := 11) (v := .int (st4 0 43)) (C := RX12) (T := TX12) (N := 47) hx hb hts ii_X12_saysOne hown hK hP 0 rfl rfl 43 (by decide) (hts _ mm_X12_saysOne_1) (fun _ hh => hh) rfl dX12_saysOne_49 ?_
  refine zz_top (v := (nI gn)) (by show st4 0 43 = _; rw [est4, up2_ne (r := 16) (k := ((4 * gn) + 3)) (a := 0) (j := 43) _ _ (by omega), est3, up2_ne (r := 16) (k := ((4 * gn) + 2)) (a := 0) (j := 43) _ _ (by omega), est2, up2_ne (r := 16) (k := ((4 * gn) + 1)) (a := 0) (j := 43) _ _ (by omega), est1, up2_ne (r := 16) (k := (4 * gn)) (a := 0) (j := 43) _ _ (by omega), h43]) ?_
  refine lv_iconst (v := 1) hx hb dX12_saysOne_52 (by decide) ?_
  refine lv_iadd hx hb dX12_saysOne_53 ?_
  refine zz_top (v := nI (gn + 1)) (nI_add gn 1) ?_
  refine va_put (D := (dC, dI)) (ci := 11) (v := .int (nI (gn + 1))) (ty := .int) (C := RX12) (T := TX12) (N := 47) hx hb hts ii_X12_saysOne tyX12 tyX12_ok nmX12 hown hK hP (mD hN _ _ _ _) hS 0 rfl rfl 43 (by decide) (hts _ mm_X12_saysOne_1) (fun _ hh => hh) rfl (by decide +kernel) rfl rfl (Nat.le_of_ble_eq_true rfl) dX12_saysOne_54 (fun H locs hP _ hS => ?_)
  have hP : va_P (dC, dI) vwCl (mw ar cy (up2 st4 0 43 (nI (gn + 1))) sl) H := hP
  obtain ⟨st5, est5⟩ : ∃ y, y = up2 st4 0 43 (nI (gn + 1)) := ⟨_, rfl⟩
  have hG : MG [1, 2, 3, 4, 5, 6, 7, 10, 11, 12, 13, 14, 15, 16, 17, 19, 20, 21, 22, 23] st st5 := by rw [est5]; exact hG.up (rn (n := (gn + 1)) (by decide : mr 0 43 = 61) (by omega)) (pn (by decide : pcl 0 43 = 9) (by decide))
  rw [← est5] at hP
  refine lv_aload_n hx hb dX12_saysOne_57 rfl (lv_at hl 1 rfl) ?_
  refine va_get (D := (dC, dI)) (ci := 11) (v := .int (st5 0 43)) (C := RX12) (T := TX12) (N := 47) hx hb hts ii_X12_saysOne hown hK hP 0 rfl rfl 43 (by decide) (hts _ mm_X12_saysOne_1) (fun _ hh => hh) rfl dX12_saysOne_58 ?_
  refine zz_top (v := (nI (gn + 1))) (by show st5 0 43 = _; rw [est5, up2_same]) ?_
  refine lv_iconst (v := 1) hx hb dX12_saysOne_61 (by decide) ?_
  refine lv_isub hx hb dX12_saysOne_62 ?_
  refine zz_top (v := nI ((gn + 1) - 1)) (nI_subN (a := (gn + 1)) (b := 1) (by omega) (by omega)) ?_
  have hE0 : st5 16 (4 * gn) = 2 := by rw [est5, up2_ne (r := 0) (k := 43) (a := 16) (j := (4 * gn)) _ _ (by omega), est4, up2_ne (r := 16) (k := ((4 * gn) + 3)) (a := 16) (j := (4 * gn)) _ _ (by omega), est3, up2_ne (r := 16) (k := ((4 * gn) + 2)) (a := 16) (j := (4 * gn)) _ _ (by omega), est2, up2_ne (r := 16) (k := ((4 * gn) + 1)) (a := 16) (j := (4 * gn)) _ _ (by omega), est1, up2_same]
  have hE1 : st5 16 (4 * gn + 1) = (nI va2) := by rw [est5, up2_ne (r := 0) (k := 43) (a := 16) (j := ((4 * gn) + 1)) _ _ (by omega), est4, up2_ne (r := 16) (k := ((4 * gn) + 3)) (a := 16) (j := ((4 * gn) + 1)) _ _ (by omega), est3, up2_ne (r := 16) (k := ((4 * gn) + 2)) (a := 16) (j := ((4 * gn) + 1)) _ _ (by omega), est2, up2_same]
  have hE2 : st5 16 (4 * gn + 2) = (nI vb2) := by rw [est5, up2_ne (r := 0) (k := 43) (a := 16) (j := ((4 * gn) + 2)) _ _ (by omega), est4, up2_ne (r := 16) (k := ((4 * gn) + 3)) (a := 16) (j := ((4 * gn) + 2)) _ _ (by omega), est3, up2_same]
  have hnk : NKm st5 := NKf.put (n := gn) hNK (fun jj hk => by show st5 16 jj = st 16 jj; rw [est5, up2_ne (r := 0) (k := 43) (a := 16) (j := jj) _ _ (by omega), est4, up2_ne (r := 16) (k := ((4 * gn) + 3)) (a := 16) (j := jj) _ _ (by omega), est3, up2_ne (r := 16) (k := ((4 * gn) + 2)) (a := 16) (j := jj) _ _ (by omega), est2, up2_ne (r := 16) (k := ((4 * gn) + 1)) (a := 16) (j := jj) _ _ (by omega), est1, up2_ne (r := 16) (k := (4 * gn)) (a := 16) (j := jj) _ _ (by omega)]) (fun hh => absurd (hE0.symm.trans hh) (by decide)) (fun _ => ⟨⟨va2, by omega, hE1⟩, ⟨vb2, by omega, hE2⟩⟩) (fun hh => absurd (hE0.symm.trans hh) (by decide))
  exact W.iret (v := (nI ((gn + 1) - 1))) hx hb hr (fun t ht hW => ⟨⟨(nI ((gn + 1) - 1)), (st5, sl), rfl, ⟨hG, hL, ⟨gn, rfl, rfl, by show st5 0 43 = _; rw [est5, up2_same], hnk⟩⟩, mB.of ht hP⟩, hS.F ht⟩) hS.2.2 dX12_saysOne_63
set_option maxHeartbeats 4000000 in
set_option maxRecDepth 100000 in
theorem m_saysOne3 (l : Launch) (dC : Nat → ClassId) (dI : Nat → Nat → Nat) (ar : Nat → Nat) (cy : Nat → ClassId) (sz : Nat) (hN : MN ar) (st : Nat → Nat → Int32) (sl : Nat → Nat → Int64) (va2 : Nat) (vb2 : Nat) (vr : Int32) (gn : Nat) (hva2 : va2 < 60) (hvb2 : vb2 < 60) (hI : MI st) (h43 : st 0 43 = nI gn) (hgn : gn < 60) (hNK : NKm st) (ha : va2 < gn) (hb2 : vb2 < gn) : Met l yX12_saysOne wsX12_saysOne ({ frames := 0, cells := 0, slots := 0, locals := 0 }) (va_Pc [.ref (ar 0), .int 3, .int (nI va2), .int (nI vb2), .int vr] (mPre dC dI ar cy sz st sl)) (va_Qi (fun (r : Int32) (x : MT) => MG [1, 2, 3, 4, 5, 6, 7, 10, 11, 12, 13, 14, 15, 16, 17, 19, 20, 21, 22, 23] st x.1 ∧ LQ [7, 9] sl x.2 ∧ (∃ n : Nat, r = nI n ∧ n = gn ∧ x.1 0 43 = nI (gn + 1) ∧ NKm x.1)) (mB dC dI ar cy) (MA ar sz)) 0 0 (MA ar sz) := by
  refine Met.ofW (cc := cX12_saysOne) (maxL := 6) (ret := (some .int)) (by decide) rfl ?_
  intro p e s m args below meth c s₁ B hml hv
  obtain ⟨rfl, hsz, hP, hK⟩ := hv
  have hx := B.exec
  have hb := B.bytes
  have hr := B.returns
  have hts := atoms_spec (ws := wsX12_saysOne) B.pre
  have hown : s.vm.findClass RX12 = some m.cls := findClass_of_methodNamed B.named
  subst hsz
  have hS : va_S (MA ar s.heap.size) s.heap s.heap [] := va_S.rf
  have hG : MG [1, 2, 3, 4, 5, 6, 7, 10, 11, 12, 13, 14, 15, 16, 17, 19, 20, 21, 22, 23] st st := MG.rf hI
  have hl := lv_entry ([.ref (ar 0), .int 3, .int (nI va2), .int (nI vb2), .int vr]) (n := 6) (Nat.le_of_ble_eq_true rfl)
  rw [lg_entry_eq]
  generalize (lg_sl ([.ref (ar 0), .int 3, .int (nI va2), .int (nI vb2), .int vr]) ++ List.replicate (6 - (lg_sl ([.ref (ar 0), .int 3, .int (nI va2), .int (nI vb2), .int vr])).length) Slot.unset).toArray = ls at hl ⊢
  have hl : lv_has ls 6 [(0, .ref (ar 0)), (1, .int 3), (2, .int (nI va2)), (3, .int (nI vb2)), (4, .int vr)] := hl
  clear hI
  have hL : LQ [7, 9] sl sl := LQ.rf
  refine lv_iconst (v := 4) hx hb dX12_saysOne_0 (by decide) ?_
  refine lv_aload_n hx hb dX12_saysOne_1 rfl (lv_at hl 0 rfl) ?_
  refine va_get (D := (dC, dI)) (ci := 11) (v := .int (st 0 43)) (C := RX12) (T := TX12) (N := 47) hx hb hts ii_X12_saysOne hown hK hP 0 rfl rfl 43 (by decide) (hts _ mm_X12_saysOne_1) (fun _ hh => hh) rfl dX12_saysOne_2 ?_
  refine zz_top (v := (nI gn)) (by show st 0 43 = _; rw [h43]) ?_
  refine lv_imul hx hb dX12_saysOne_5 ?_
  refine zz_top (v := nI (4 * gn)) (nI_mul 4 gn) ?_
  refine lv_istore (lv' := [(5, .int (nI (4 * gn))), (0, .ref (ar 0)), (1, .int 3), (2, .int (nI va2)), (3, .int (nI vb2)), (4, .int vr)]) hx hb dX12_saysOne_6 hl (by decide) rfl (fun ls hl => ?_)
  refine lv_aload_n hx hb dX12_saysOne_8 rfl (lv_at hl 1 rfl) ?_
  refine va_get (D := (dC, dI)) (ci := 11) (v := .ref (ar 16)) (C := RX12) (T := TX12) (N := 47) hx hb hts ii_X12_saysOne hown hK hP 0 rfl rfl 42 (by decide) (hts _ mm_X12_saysOne_2) (fun _ hh => hh) rfl dX12_saysOne_9 ?_
  refine lv_iload hx hb dX12_saysOne_12 (lv_at hl 0 rfl) ?_
  refine lv_iload_n hx hb dX12_saysOne_14 rfl (lv_at hl 2 rfl) ?_
  refine va_iast hx hb hK hP (mD hN _ _ _ _) hS 16 15 rfl rfl (i := (nI (4 * gn))) (vp_in_nI (by omega) (by decide)) dX12_saysOne_15 (fun H locs hP _ hS => ?_)
  rw [nI_clamp (by omega)] at hP
  have hP : va_P (dC, dI) vwCl (mw ar cy (up2 st 16 (4 * gn) 3) sl) H := hP
  obtain ⟨st1, est1⟩ : ∃ y, y = up2 st 16 (4 * gn) 3 := ⟨_, rfl⟩
  have hG : MG [1, 2, 3, 4, 5, 6, 7, 10, 11, 12, 13, 14, 15, 16, 17, 19, 20, 21, 22, 23] st st1 := by rw [est1]; exact hG.up (rz (mr_16_0_237 (4 * gn) (by omega) (by omega))) (pn (pcl_16_0_237 (4 * gn) (by omega) (by omega)) (by decide))
  rw [← est1] at hP
  refine lv_aload_n hx hb dX12_saysOne_16 rfl (lv_at hl 1 rfl) ?_
  refine va_get (D := (dC, dI)) (ci := 11) (v := .ref (ar 16)) (C := RX12) (T := TX12) (N := 47) hx hb hts ii_X12_saysOne hown hK hP 0 rfl rfl 42 (by decide) (hts _ mm_X12_saysOne_2) (fun _ hh => hh) rfl dX12_saysOne_17 ?_
  refine lv_iload hx hb dX12_saysOne_20 (lv_at hl 0 rfl) ?_
  refine lv_iconst (v := 1) hx hb dX12_saysOne_22 (by decide) ?_
  refine lv_iadd hx hb dX12_saysOne_23 ?_
  refine zz_top (v := nI ((4 * gn) + 1)) (nI_add (4 * gn) 1) ?_
  refine lv_iload_n hx hb dX12_saysOne_24 rfl (lv_at hl 3 rfl) ?_
  refine va_iast hx hb hK hP (mD hN _ _ _ _) hS 16 15 rfl rfl (i := (nI ((4 * gn) + 1))) (vp_in_nI (by omega) (by decide)) dX12_saysOne_25 (fun H locs hP _ hS => ?_)
  rw [nI_clamp (by omega)] at hP
  have hP : va_P (dC, dI) vwCl (mw ar cy (up2 st1 16 ((4 * gn) + 1) (nI va2)) sl) H := hP
  obtain ⟨st2, est2⟩ : ∃ y, y = up2 st1 16 ((4 * gn) + 1) (nI va2) := ⟨_, rfl⟩
  have hG : MG [1, 2, 3, 4, 5, 6, 7, 10, 11, 12, 13, 14, 15, 16, 17, 19, 20, 21, 22, 23] st st2 := by rw [est2]; exact hG.up (rz (mr_16_1_238 ((4 * gn) + 1) (by omega) (by omega))) (pn (pcl_16_1_238 ((4 * gn) + 1) (by omega) (by omega)) (by decide))
  rw [← est2] at hP
  refine lv_aload_n hx hb dX12_saysOne_26 rfl (lv_at hl 1 rfl) ?_
  refine va_get (D := (dC, dI)) (ci := 11) (v := .ref (ar 16)) (C := RX12) (T := TX12) (N := 47) hx hb hts ii_X12_saysOne hown hK hP 0 rfl rfl 42 (by decide) (hts _ mm_X12_saysOne_2) (fun _ hh => hh) rfl dX12_saysOne_27 ?_
  refine lv_iload hx hb dX12_saysOne_30 (lv_at hl 0 rfl) ?_
  refine lv_iconst (v := 2) hx hb dX12_saysOne_32 (by decide) ?_
  refine lv_iadd hx hb dX12_saysOne_33 ?_
  refine zz_top (v := nI ((4 * gn) + 2)) (nI_add (4 * gn) 2) ?_
  refine lv_iload_n hx hb dX12_saysOne_34 rfl (lv_at hl 4 rfl) ?_
  refine va_iast hx hb hK hP (mD hN _ _ _ _) hS 16 15 rfl rfl (i := (nI ((4 * gn) + 2))) (vp_in_nI (by omega) (by decide)) dX12_saysOne_35 (fun H locs hP _ hS => ?_)
  rw [nI_clamp (by omega)] at hP
  have hP : va_P (dC, dI) vwCl (mw ar cy (up2 st2 16 ((4 * gn) + 2) (nI vb2)) sl) H := hP
  obtain ⟨st3, est3⟩ : ∃ y, y = up2 st2 16 ((4 * gn) + 2) (nI vb2) := ⟨_, rfl⟩
  have hG : MG [1, 2, 3, 4, 5, 6, 7, 10, 11, 12, 13, 14, 15, 16, 17, 19, 20, 21, 22, 23] st st3 := by rw [est3]; exact hG.up (rz (mr_16_2_239 ((4 * gn) + 2) (by omega) (by omega))) (pn (pcl_16_2_239 ((4 * gn) + 2) (by omega) (by omega)) (by decide))
  rw [← est3] at hP
  refine lv_aload_n hx hb dX12_saysOne_36 rfl (lv_at hl 1 rfl) ?_
  refine va_get (D := (dC, dI)) (ci := 11) (v := .ref (ar 16)) (C := RX12) (T := TX12) (N := 47) hx hb hts ii_X12_saysOne hown hK hP 0 rfl rfl 42 (by decide) (hts _ mm_X12_saysOne_2) (fun _ hh => hh) rfl dX12_saysOne_37 ?_
  refine lv_iload hx hb dX12_saysOne_40 (lv_at hl 0 rfl) ?_
  refine lv_iconst (v := 3) hx hb dX12_saysOne_42 (by decide) ?_
  refine lv_iadd hx hb dX12_saysOne_43 ?_
  refine zz_top (v := nI ((4 * gn) + 3)) (nI_add (4 * gn) 3) ?_
  refine lv_iload hx hb dX12_saysOne_44 (lv_at hl 5 rfl) ?_
  refine va_iast hx hb hK hP (mD hN _ _ _ _) hS 16 15 rfl rfl (i := (nI ((4 * gn) + 3))) (vp_in_nI (by omega) (by decide)) dX12_saysOne_46 (fun H locs hP _ hS => ?_)
  rw [nI_clamp (by omega)] at hP
  have hP : va_P (dC, dI) vwCl (mw ar cy (up2 st3 16 ((4 * gn) + 3) vr) sl) H := hP
  obtain ⟨st4, est4⟩ : ∃ y, y = up2 st3 16 ((4 * gn) + 3) vr := ⟨_, rfl⟩
  have hG : MG [1, 2, 3, 4, 5, 6, 7, 10, 11, 12, 13, 14, 15, 16, 17, 19, 20, 21, 22, 23] st st4 := by rw [est4]; exact hG.up (rz (mr_16_3_240 ((4 * gn) + 3) (by omega) (by omega))) (pn (pcl_16_3_240 ((4 * gn) + 3) (by omega) (by omega)) (by decide))
  rw [← est4] at hP
  refine lv_aload_n hx hb dX12_saysOne_47 rfl (lv_at hl 1 rfl) ?_
  refine lv_dup hx hb dX12_saysOne_48 rfl ?_
  refine va_get (D := (dC, dI)) (ci := 11) (v := .int (st4 0 43)) (C := RX12) (T := TX12) (N := 47) hx hb hts ii_X12_saysOne hown hK hP 0 rfl rfl 43 (by decide) (hts _ mm_X12_saysOne_1) (fun _ hh => hh) rfl dX12_saysOne_49 ?_
  refine zz_top (v := (nI gn)) (by show st4 0 43 = _; rw [est4, up2_ne (r := 16) (k := ((4 * gn) + 3)) (a := 0) (j := 43) _ _ (by omega), est3, up2_ne (r := 16) (k := ((4 * gn) + 2)) (a := 0) (j := 43) _ _ (by omega), est2, up2_ne (r := 16) (k := ((4 * gn) + 1)) (a := 0) (j := 43) _ _ (by omega), est1, up2_ne (r := 16) (k := (4 * gn)) (a := 0) (j := 43) _ _ (by omega), h43]) ?_
  refine lv_iconst (v := 1) hx hb dX12_saysOne_52 (by decide) ?_
  refine lv_iadd hx hb dX12_saysOne_53 ?_
  refine zz_top (v := nI (gn + 1)) (nI_add gn 1) ?_
  refine va_put (D := (dC, dI)) (ci := 11) (v := .int (nI (gn + 1))) (ty := .int) (C := RX12) (T := TX12) (N := 47) hx hb hts ii_X12_saysOne tyX12 tyX12_ok nmX12 hown hK hP (mD hN _ _ _ _) hS 0 rfl rfl 43 (by decide) (hts _ mm_X12_saysOne_1) (fun _ hh => hh) rfl (by decide +kernel) rfl rfl (Nat.le_of_ble_eq_true rfl) dX12_saysOne_54 (fun H locs hP _ hS => ?_)
  have hP : va_P (dC, dI) vwCl (mw ar cy (up2 st4 0 43 (nI (gn + 1))) sl) H := hP
  obtain ⟨st5, est5⟩ : ∃ y, y = up2 st4 0 43 (nI (gn + 1)) := ⟨_, rfl⟩
  have hG : MG [1, 2, 3, 4, 5, 6, 7, 10, 11, 12, 13, 14, 15, 16, 17, 19, 20, 21, 22, 23] st st5 := by rw [est5]; exact hG.up (rn (n := (gn + 1)) (by decide : mr 0 43 = 61) (by omega)) (pn (by decide : pcl 0 43 = 9) (by decide))
  rw [← est5] at hP
  refine lv_aload_n hx hb dX12_saysOne_57 rfl (lv_at hl 1 rfl) ?_
  refine va_get (D := (dC, dI)) (ci := 11) (v := .int (st5 0 43)) (C := RX12) (T := TX12) (N := 47) hx hb hts ii_X12_saysOne hown hK hP 0 rfl rfl 43 (by decide) (hts _ mm_X12_saysOne_1) (fun _ hh => hh) rfl dX12_saysOne_58 ?_
  refine zz_top (v := (nI (gn + 1))) (by show st5 0 43 = _; rw [est5, up2_same]) ?_
  refine lv_iconst (v := 1) hx hb dX12_saysOne_61 (by decide) ?_
  refine lv_isub hx hb dX12_saysOne_62 ?_
  refine zz_top (v := nI ((gn + 1) - 1)) (nI_subN (a := (gn + 1)) (b := 1) (by omega) (by omega)) ?_
  have hE0 : st5 16 (4 * gn) = 3 := by rw [est5, up2_ne (r := 0) (k := 43) (a := 16) (j := (4 * gn)) _ _ (by omega), est4, up2_ne (r := 16) (k := ((4 * gn) + 3)) (a := 16) (j := (4 * gn)) _ _ (by omega), est3, up2_ne (r := 16) (k := ((4 * gn) + 2)) (a := 16) (j := (4 * gn)) _ _ (by omega), est2, up2_ne (r := 16) (k := ((4 * gn) + 1)) (a := 16) (j := (4 * gn)) _ _ (by omega), est1, up2_same]
  have hE1 : st5 16 (4 * gn + 1) = (nI va2) := by rw [est5, up2_ne (r := 0) (k := 43) (a := 16) (j := ((4 * gn) + 1)) _ _ (by omega), est4, up2_ne (r := 16) (k := ((4 * gn) + 3)) (a := 16) (j := ((4 * gn) + 1)) _ _ (by omega), est3, up2_ne (r := 16) (k := ((4 * gn) + 2)) (a := 16) (j := ((4 * gn) + 1)) _ _ (by omega), est2, up2_same]
  have hE2 : st5 16 (4 * gn + 2) = (nI vb2) := by rw [est5, up2_ne (r := 0) (k := 43) (a := 16) (j := ((4 * gn) + 2)) _ _ (by omega), est4, up2_ne (r := 16) (k := ((4 * gn) + 3)) (a := 16) (j := ((4 * gn) + 2)) _ _ (by omega), est3, up2_same]
  have hnk : NKm st5 := NKf.put (n := gn) hNK (fun jj hk => by show st5 16 jj = st 16 jj; rw [est5, up2_ne (r := 0) (k := 43) (a := 16) (j := jj) _ _ (by omega), est4, up2_ne (r := 16) (k := ((4 * gn) + 3)) (a := 16) (j := jj) _ _ (by omega), est3, up2_ne (r := 16) (k := ((4 * gn) + 2)) (a := 16) (j := jj) _ _ (by omega), est2, up2_ne (r := 16) (k := ((4 * gn) + 1)) (a := 16) (j := jj) _ _ (by omega), est1, up2_ne (r := 16) (k := (4 * gn)) (a := 16) (j := jj) _ _ (by omega)]) (fun hh => absurd (hE0.symm.trans hh) (by decide)) (fun _ => ⟨⟨va2, by omega, hE1⟩, ⟨vb2, by omega, hE2⟩⟩) (fun hh => absurd (hE0.symm.trans hh) (by decide))
  exact W.iret (v := (nI ((gn + 1) - 1))) hx hb hr (fun t ht hW => ⟨⟨(nI ((gn + 1) - 1)), (st5, sl), rfl, ⟨hG, hL, ⟨gn, rfl, rfl, by show st5 0 43 = _; rw [est5, up2_same], hnk⟩⟩, mB.of ht hP⟩, hS.F ht⟩) hS.2.2 dX12_saysOne_63
set_option maxHeartbeats 4000000 in
set_option maxRecDepth 100000 in
theorem m_saysOne50 (l : Launch) (dC : Nat → ClassId) (dI : Nat → Nat → Nat) (ar : Nat → Nat) (cy : Nat → ClassId) (sz : Nat) (hN : MN ar) (st : Nat → Nat → Int32) (sl : Nat → Nat → Int64) (va : Nat) (va2 : Nat) (vb : Int32) (vr : Int32) (gn : Nat) (hlva : 50 ≤ va) (hva : va < 80) (hva2 : va2 < 8) (hI : MI st) (h43 : st 0 43 = nI gn) (hgn : gn < 60) (hNK : NKm st) : Met l yX12_saysOne wsX12_saysOne ({ frames := 0, cells := 0, slots := 0, locals := 0 }) (va_Pc [.ref (ar 0), .int (nI va), .int (nI va2), .int vb, .int vr] (mPre dC dI ar cy sz st sl)) (va_Qi (fun (r : Int32) (x : MT) => MG [1, 2, 3, 4, 5, 6, 7, 10, 11, 12, 13, 14, 15, 16, 17, 19, 20, 21, 22, 23] st x.1 ∧ LQ [7, 9] sl x.2 ∧ (∃ n : Nat, r = nI n ∧ n = gn ∧ x.1 0 43 = nI (gn + 1) ∧ NKm x.1)) (mB dC dI ar cy) (MA ar sz)) 0 0 (MA ar sz) := by
  refine Met.ofW (cc := cX12_saysOne) (maxL := 6) (ret := (some .int)) (by decide) rfl ?_
  intro p e s m args below meth c s₁ B hml hv
  obtain ⟨rfl, hsz, hP, hK⟩ := hv
  have hx := B.exec
  have hb := B.bytes
  have hr := B.returns
  have hts := atoms_spec (ws := wsX12_saysOne) B.pre
  have hown : s.vm.findClass RX12 = some m.cls := findClass_of_methodNamed B.named
  subst hsz
  have hS : va_S (MA ar s.heap.size) s.heap s.heap [] := va_S.rf
  have hG : MG [1, 2, 3, 4, 5, 6, 7, 10, 11, 12, 13, 14, 15, 16, 17, 19, 20, 21, 22, 23] st st := MG.rf hI
  have hl := lv_entry ([.ref (ar 0), .int (nI va), .int (nI va2), .int vb, .int vr]) (n := 6) (Nat.le_of_ble_eq_true rfl)
  rw [lg_entry_eq]
  generalize (lg_sl ([.ref (ar 0), .int (nI va), .int (nI va2), .int vb, .int vr]) ++ List.replicate (6 - (lg_sl ([.ref (ar 0), .int (nI va), .int (nI va2), .int vb, .int vr])).length) Slot.unset).toArray = ls at hl ⊢
  have hl : lv_has ls 6 [(0, .ref (ar 0)), (1, .int (nI va)), (2, .int (nI va2)), (3, .int vb), (4, .int vr)] := hl
  clear hI
  have hL : LQ [7, 9] sl sl := LQ.rf
  refine lv_iconst (v := 4) hx hb dX12_saysOne_0 (by decide) ?_
  refine lv_aload_n hx hb dX12_saysOne_1 rfl (lv_at hl 0 rfl) ?_
  refine va_get (D := (dC, dI)) (ci := 11) (v := .int (st 0 43)) (C := RX12) (T := TX12) (N := 47) hx hb hts ii_X12_saysOne hown hK hP 0 rfl rfl 43 (by decide) (hts _ mm_X12_saysOne_1) (fun _ hh => hh) rfl dX12_saysOne_2 ?_
  refine zz_top (v := (nI gn)) (by show st 0 43 = _; rw [h43]) ?_
  refine lv_imul hx hb dX12_saysOne_5 ?_
  refine zz_top (v := nI (4 * gn)) (nI_mul 4 gn) ?_
  refine lv_istore (lv' := [(5, .int (nI (4 * gn))), (0, .ref (ar 0)), (1, .int (nI va)), (2, .int (nI va2)), (3, .int vb), (4, .int vr)]) hx hb dX12_saysOne_6 hl (by decide) rfl (fun ls hl => ?_)
  refine lv_aload_n hx hb dX12_saysOne_8 rfl (lv_at hl 1 rfl) ?_
  refine va_get (D := (dC, dI)) (ci := 11) (v := .ref (ar 16)) (C := RX12) (T := TX12) (N := 47) hx hb hts ii_X12_saysOne hown hK hP 0 rfl rfl 42 (by decide) (hts _ mm_X12_saysOne_2) (fun _ hh => hh) rfl dX12_saysOne_9 ?_
  refine lv_iload hx hb dX12_saysOne_12 (lv_at hl 0 rfl) ?_
  refine lv_iload_n hx hb dX12_saysOne_14 rfl (lv_at hl 2 rfl) ?_
  refine va_iast hx hb hK hP (mD hN _ _ _ _) hS 16 15 rfl rfl (i := (nI (4 * gn))) (vp_in_nI (by omega) (by decide)) dX12_saysOne_15 (fun H locs hP _ hS => ?_)
  rw [nI_clamp (by omega)] at hP
  have hP : va_P (dC, dI) vwCl (mw ar cy (up2 st 16 (4 * gn) (nI va)) sl) H := hP
  obtain ⟨st1, est1⟩ : ∃ y, y = up2 st 16 (4 * gn) (nI va) := ⟨_, rfl⟩
  have hG : MG [1, 2, 3, 4, 5, 6, 7, 10, 11, 12, 13, 14, 15, 16, 17, 19, 20, 21, 22, 23] st st1 := by rw [est1]; exact hG.up (rz (mr_16_0_237 (4 * gn) (by omega) (by omega))) (pn (pcl_16_0_237 (4 * gn) (by omega) (by omega)) (by decide))
  rw [← est1] at hP
  refine lv_aload_n hx hb dX12_saysOne_16 rfl (lv_at hl 1 rfl) ?_
  refine va_get (D := (dC, dI)) (ci := 11) (v := .ref (ar 16)) (C := RX12) (T := TX12) (N := 47) hx hb hts ii_X12_saysOne hown hK hP 0 rfl rfl 42 (by decide) (hts _ mm_X12_saysOne_2) (fun _ hh => hh) rfl dX12_saysOne_17 ?_
  refine lv_iload hx hb dX12_saysOne_20 (lv_at hl 0 rfl) ?_
  refine lv_iconst (v := 1) hx hb dX12_saysOne_22 (by decide) ?_
  refine lv_iadd hx hb dX12_saysOne_23 ?_
  refine zz_top (v := nI ((4 * gn) + 1)) (nI_add (4 * gn) 1) ?_
  refine lv_iload_n hx hb dX12_saysOne_24 rfl (lv_at hl 3 rfl) ?_
  refine va_iast hx hb hK hP (mD hN _ _ _ _) hS 16 15 rfl rfl (i := (nI ((4 * gn) + 1))) (vp_in_nI (by omega) (by decide)) dX12_saysOne_25 (fun H locs hP _ hS => ?_)
  rw [nI_clamp (by omega)] at hP
  have hP : va_P (dC, dI) vwCl (mw ar cy (up2 st1 16 ((4 * gn) + 1) (nI va2)) sl) H := hP
  obtain ⟨st2, est2⟩ : ∃ y, y = up2 st1 16 ((4 * gn) + 1) (nI va2) := ⟨_, rfl⟩
  have hG : MG [1, 2, 3, 4, 5, 6, 7, 10, 11, 12, 13, 14, 15, 16, 17, 19, 20, 21, 22, 23] st st2 := by rw [est2]; exact hG.up (rz (mr_16_1_238 ((4 * gn) + 1) (by omega) (by omega))) (pn (pcl_16_1_238 ((4 * gn) + 1) (by omega) (by omega)) (by decide))
  rw [← est2] at hP
  refine lv_aload_n hx hb dX12_saysOne_26 rfl (lv_at hl 1 rfl) ?_
  refine va_get (D := (dC, dI)) (ci := 11) (v := .ref (ar 16)) (C := RX12) (T := TX12) (N := 47) hx hb hts ii_X12_saysOne hown hK hP 0 rfl rfl 42 (by decide) (hts _ mm_X12_saysOne_2) (fun _ hh => hh) rfl dX12_saysOne_27 ?_
  refine lv_iload hx hb dX12_saysOne_30 (lv_at hl 0 rfl) ?_
  refine lv_iconst (v := 2) hx hb dX12_saysOne_32 (by decide) ?_
  refine lv_iadd hx hb dX12_saysOne_33 ?_
  refine zz_top (v := nI ((4 * gn) + 2)) (nI_add (4 * gn) 2) ?_
  refine lv_iload_n hx hb dX12_saysOne_34 rfl (lv_at hl 4 rfl) ?_
  refine va_iast hx hb hK hP (mD hN _ _ _ _) hS 16 15 rfl rfl (i := (nI ((4 * gn) + 2))) (vp_in_nI (by omega) (by decide)) dX12_saysOne_35 (fun H locs hP _ hS => ?_)
  rw [nI_clamp (by omega)] at hP
  have hP : va_P (dC, dI) vwCl (mw ar cy (up2 st2 16 ((4 * gn) + 2) vb) sl) H := hP
  obtain ⟨st3, est3⟩ : ∃ y, y = up2 st2 16 ((4 * gn) + 2) vb := ⟨_, rfl⟩
  have hG : MG [1, 2, 3, 4, 5, 6, 7, 10, 11, 12, 13, 14, 15, 16, 17, 19, 20, 21, 22, 23] st st3 := by rw [est3]; exact hG.up (rz (mr_16_2_239 ((4 * gn) + 2) (by omega) (by omega))) (pn (pcl_16_2_239 ((4 * gn) + 2) (by omega) (by omega)) (by decide))
  rw [← est3] at hP
  refine lv_aload_n hx hb dX12_saysOne_36 rfl (lv_at hl 1 rfl) ?_
  refine va_get (D := (dC, dI)) (ci := 11) (v := .ref (ar 16)) (C := RX12) (T := TX12) (N := 47) hx hb hts ii_X12_saysOne hown hK hP 0 rfl rfl 42 (by decide) (hts _ mm_X12_saysOne_2) (fun _ hh => hh) rfl dX12_saysOne_37 ?_
  refine lv_iload hx hb dX12_saysOne_40 (lv_at hl 0 rfl) ?_
  refine lv_iconst (v := 3) hx hb dX12_saysOne_42 (by decide) ?_
  refine lv_iadd hx hb dX12_saysOne_43 ?_
  refine zz_top (v := nI ((4 * gn) + 3)) (nI_add (4 * gn) 3) ?_
  refine lv_iload hx hb dX12_saysOne_44 (lv_at hl 5 rfl) ?_
  refine va_iast hx hb hK hP (mD hN _ _ _ _) hS 16 15 rfl rfl (i := (nI ((4 * gn) + 3))) (vp_in_nI (by omega) (by decide)) dX12_saysOne_46 (fun H locs hP _ hS => ?_)
  rw [nI_clamp (by omega)] at hP
  have hP : va_P (dC, dI) vwCl (mw ar cy (up2 st3 16 ((4 * gn) + 3) vr) sl) H := hP
  obtain ⟨st4, est4⟩ : ∃ y, y = up2 st3 16 ((4 * gn) + 3) vr := ⟨_, rfl⟩
  have hG : MG [1, 2, 3, 4, 5, 6, 7, 10, 11, 12, 13, 14, 15, 16, 17, 19, 20, 21, 22, 23] st st4 := by rw [est4]; exact hG.up (rz (mr_16_3_240 ((4 * gn) + 3) (by omega) (by omega))) (pn (pcl_16_3_240 ((4 * gn) + 3) (by omega) (by omega)) (by decide))
  rw [← est4] at hP
  refine lv_aload_n hx hb dX12_saysOne_47 rfl (lv_at hl 1 rfl) ?_
  refine lv_dup hx hb dX12_saysOne_48 rfl ?_
  refine va_get (D := (dC, dI)) (ci := 11) (v := .int (st4 0 43)) (C := RX12) (T := TX12) (N := 47) hx hb hts ii_X12_saysOne hown hK hP 0 rfl rfl 43 (by decide) (hts _ mm_X12_saysOne_1) (fun _ hh => hh) rfl dX12_saysOne_49 ?_
  refine zz_top (v := (nI gn)) (by show st4 0 43 = _; rw [est4, up2_ne (r := 16) (k := ((4 * gn) + 3)) (a := 0) (j := 43) _ _ (by omega), est3, up2_ne (r := 16) (k := ((4 * gn) + 2)) (a := 0) (j := 43) _ _ (by omega), est2, up2_ne (r := 16) (k := ((4 * gn) + 1)) (a := 0) (j := 43) _ _ (by omega), est1, up2_ne (r := 16) (k := (4 * gn)) (a := 0) (j := 43) _ _ (by omega), h43]) ?_
  refine lv_iconst (v := 1) hx hb dX12_saysOne_52 (by decide) ?_
  refine lv_iadd hx hb dX12_saysOne_53 ?_
  refine zz_top (v := nI (gn + 1)) (nI_add gn 1) ?_
  refine va_put (D := (dC, dI)) (ci := 11) (v := .int (nI (gn + 1))) (ty := .int) (C := RX12) (T := TX12) (N := 47) hx hb hts ii_X12_saysOne tyX12 tyX12_ok nmX12 hown hK hP (mD hN _ _ _ _) hS 0 rfl rfl 43 (by decide) (hts _ mm_X12_saysOne_1) (fun _ hh => hh) rfl (by decide +kernel) rfl rfl (Nat.le_of_ble_eq_true rfl) dX12_saysOne_54 (fun H locs hP _ hS => ?_)
  have hP : va_P (dC, dI) vwCl (mw ar cy (up2 st4 0 43 (nI (gn + 1))) sl) H := hP
  obtain ⟨st5, est5⟩ : ∃ y, y = up2 st4 0 43 (nI (gn + 1)) := ⟨_, rfl⟩
  have hG : MG [1, 2, 3, 4, 5, 6, 7, 10, 11, 12, 13, 14, 15, 16, 17, 19, 20, 21, 22, 23] st st5 := by rw [est5]; exact hG.up (rn (n := (gn + 1)) (by decide : mr 0 43 = 61) (by omega)) (pn (by decide : pcl 0 43 = 9) (by decide))
  rw [← est5] at hP
  refine lv_aload_n hx hb dX12_saysOne_57 rfl (lv_at hl 1 rfl) ?_
  refine va_get (D := (dC, dI)) (ci := 11) (v := .int (st5 0 43)) (C := RX12) (T := TX12) (N := 47) hx hb hts ii_X12_saysOne hown hK hP 0 rfl rfl 43 (by decide) (hts _ mm_X12_saysOne_1) (fun _ hh => hh) rfl dX12_saysOne_58 ?_
  refine zz_top (v := (nI (gn + 1))) (by show st5 0 43 = _; rw [est5, up2_same]) ?_
  refine lv_iconst (v := 1) hx hb dX12_saysOne_61 (by decide) ?_
  refine lv_isub hx hb dX12_saysOne_62 ?_
  refine zz_top (v := nI ((gn + 1) - 1)) (nI_subN (a := (gn + 1)) (b := 1) (by omega) (by omega)) ?_
  have hE0 : st5 16 (4 * gn) = (nI va) := by rw [est5, up2_ne (r := 0) (k := 43) (a := 16) (j := (4 * gn)) _ _ (by omega), est4, up2_ne (r := 16) (k := ((4 * gn) + 3)) (a := 16) (j := (4 * gn)) _ _ (by omega), est3, up2_ne (r := 16) (k := ((4 * gn) + 2)) (a := 16) (j := (4 * gn)) _ _ (by omega), est2, up2_ne (r := 16) (k := ((4 * gn) + 1)) (a := 16) (j := (4 * gn)) _ _ (by omega), est1, up2_same]
  have hE1 : st5 16 (4 * gn + 1) = (nI va2) := by rw [est5, up2_ne (r := 0) (k := 43) (a := 16) (j := ((4 * gn) + 1)) _ _ (by omega), est4, up2_ne (r := 16) (k := ((4 * gn) + 3)) (a := 16) (j := ((4 * gn) + 1)) _ _ (by omega), est3, up2_ne (r := 16) (k := ((4 * gn) + 2)) (a := 16) (j := ((4 * gn) + 1)) _ _ (by omega), est2, up2_same]
  have hE2 : st5 16 (4 * gn + 2) = vb := by rw [est5, up2_ne (r := 0) (k := 43) (a := 16) (j := ((4 * gn) + 2)) _ _ (by omega), est4, up2_ne (r := 16) (k := ((4 * gn) + 3)) (a := 16) (j := ((4 * gn) + 2)) _ _ (by omega), est3, up2_same]
  have hnk : NKm st5 := NKf.put (n := gn) hNK (fun jj hk => by show st5 16 jj = st 16 jj; rw [est5, up2_ne (r := 0) (k := 43) (a := 16) (j := jj) _ _ (by omega), est4, up2_ne (r := 16) (k := ((4 * gn) + 3)) (a := 16) (j := jj) _ _ (by omega), est3, up2_ne (r := 16) (k := ((4 * gn) + 2)) (a := 16) (j := jj) _ _ (by omega), est2, up2_ne (r := 16) (k := ((4 * gn) + 1)) (a := 16) (j := jj) _ _ (by omega), est1, up2_ne (r := 16) (k := (4 * gn)) (a := 16) (j := jj) _ _ (by omega)]) (fun hh => absurd (hE0.symm.trans hh) (nI_nec (a := va) (b := 1) (by omega) (by omega) (by omega))) (fun hh => hh.elim (fun hh => absurd (hE0.symm.trans hh) (nI_nec (a := va) (b := 2) (by omega) (by omega) (by omega))) (fun hh => absurd (hE0.symm.trans hh) (nI_nec (a := va) (b := 3) (by omega) (by omega) (by omega)))) (fun _ => ⟨va2, by omega, hE1⟩)
  exact W.iret (v := (nI ((gn + 1) - 1))) hx hb hr (fun t ht hW => ⟨⟨(nI ((gn + 1) - 1)), (st5, sl), rfl, ⟨hG, hL, ⟨gn, rfl, rfl, by show st5 0 43 = _; rw [est5, up2_same], hnk⟩⟩, mB.of ht hP⟩, hS.F ht⟩) hS.2.2 dX12_saysOne_63
set_option maxHeartbeats 4000000 in
set_option maxRecDepth 100000 in
theorem m_readSaid_8 (l : Launch) (dC : Nat → ClassId) (dI : Nat → Nat → Nat) (ar : Nat → Nat) (cy : Nat → ClassId) (sz : Nat) (hN : MN ar) (st : Nat → Nat → Int32) (sl : Nat → Nat → Int64) (gn : Nat) (go : Nat) (ga gb : Nat) (hI : MI st) (hT : TS st ga gb) (h43 : st 0 43 = nI gn) (h44 : st 0 44 = nI go) (h45 : st 0 45 = 8) (hgn : gn ≤ 2 * go) (hgo : go ≤ 20) (hNK : NKm st) : Met l yX12_readSaid wsX12_readSaid ({ frames := 3, cells := 0, slots := 0, locals := 69 }) (va_Pc [.ref (ar 0)] (mPre dC dI ar cy sz st sl)) (va_Qi (fun (r : Int32) (x : MT) => MG [1, 2, 3, 6, 7, 13, 14, 15, 19, 20, 21, 22] st x.1 ∧ LQ [7, 9] sl x.2 ∧ ((∃ g : Nat, ∃ n1 : Nat, ∃ o1 : Nat, ∃ t1 : Nat, r = 1 ∧ TS x.1 g gb ∧ ga ≤ g ∧ x.1 0 43 = nI n1 ∧ x.1 0 44 = nI o1 ∧ x.1 0 45 = 8 ∧ x.1 0 46 = nI t1 ∧ t1 < n1 ∧ n1 + 2 * go + 1 ≤ gn + 2 * o1 ∧ go + 1 ≤ o1 ∧ o1 ≤ 20 ∧ gn ≤ n1 ∧ NKm x.1) ∨ (r = 0 ∧ x.1 0 45 = 8 ∧ NKm x.1))) (mB dC dI ar cy) (MA ar sz)) 0 0 (MA ar sz) := by
  refine Met.ofW (cc := cX12_readSaid) (maxL := 4) (ret := (some .boolean)) (by decide) rfl ?_
  intro p e s m args below meth c s₁ B hml hv
  obtain ⟨rfl, hsz, hP, hK⟩ := hv
  have hx := B.exec
  have hb := B.bytes
  have hr := B.returns
  have hts := atoms_spec (ws := wsX12_readSaid) B.pre
  have hown : s.vm.findClass RX12 = some m.cls := findClass_of_methodNamed B.named
  subst hsz
  have hS : va_S (MA ar s.heap.size) s.heap s.heap [] := va_S.rf
  have hG : MG [1, 2, 3, 6, 7, 13, 14, 15, 19, 20, 21, 22] st st := MG.rf hI
  have hl := lv_entry ([.ref (ar 0)]) (n := 4) (Nat.le_of_ble_eq_true rfl)
  rw [lg_entry_eq]
  generalize (lg_sl ([.ref (ar 0)]) ++ List.replicate (4 - (lg_sl ([.ref (ar 0)])).length) Slot.unset).toArray = ls at hl ⊢
  have hl : lv_has ls 4 [(0, .ref (ar 0))] := hl
  clear hI
  have hL : LQ [7, 9] sl sl := LQ.rf
  have hTc := hT.2.2.1
  have hTd := hT.2.2.2
  have hga : ga ≤ ga := Nat.le_refl ga
  refine lv_aload_n hx hb dX12_readSaid_0 rfl (lv_at hl 0 rfl) ?_
  refine lv_bipush (v := 40) hx hb dX12_readSaid_1 (by decide) ?_
  refine va_calli (va_runV (As := [.int 40]) (rest := []) ⟨hx, hb, hml, hown, hts⟩ (m_isSignA l dC dI ar cy _ hN st sl 40  hG.1) (cwV 1 hts gX12_readSaid_X12_isSign rfl rfl rfl (by decide +kernel) ⟨Nat.le_of_ble_eq_true rfl, Nat.le_of_ble_eq_true rfl⟩) ⟨fun a U g mk q => ⟨q.1, mPre.blind q.2⟩, va_recv hK hP (ci := 11) (q0 := 0) rfl rfl, fun U hU hW => ⟨rfl, mPre.of hP hK hU hW⟩⟩ rfl rfl hl.1 rfl (lv_room (Nat.le_of_ble_eq_true rfl)) dX12_readSaid_3 ⟨Nat.le_of_ble_eq_true rfl, Nat.le_of_ble_eq_true rfl⟩) hS (fun q _ h => MA.le hS.1 q h) (MA.le hS.1) (fun r1 x t H locs ht hvm hw hB _ _ hS => ?_)
  have hP := mB.at ht hB
  clear hB ht hvm
  obtain ⟨rfl, hw⟩ := hw
  have hP : va_P (dC, dI) vwCl (mw ar cy st sl) _ := hP
  clear hw
  refine lv_istore_n (lv' := [(1, .int r1), (0, .ref (ar 0))]) hx hb dX12_readSaid_6 rfl hl (by decide) rfl (fun ls hl => ?_)
  refine lv_bipush (v := 15) hx hb dX12_readSaid_7 (by decide) ?_
  refine lv_istore_n (lv' := [(2, .int 15), (1, .int r1), (0, .ref (ar 0))]) hx hb dX12_readSaid_9 rfl hl (by decide) rfl (fun ls hl => ?_)
  refine zz_wf (fun n stk H locs ls => ∃ k2 : Nat, n = 25 - k2 ∧ 15 ≤ k2 ∧ k2 < 25 ∧ va_P (dC, dI) vwCl (mw ar cy st sl) H ∧ va_S (MA ar s.heap.size) s.heap H locs ∧ lv_has ls 4 [(2, .int (nI k2)), (1, .int r1), (0, .ref (ar 0))] ∧ stk = []) ?_ (25 - 15) _ _ _ _ ⟨15, rfl, by omega, by omega, hP, hS, lv_sub hl [0, 1, 2] rfl, rfl⟩
  rintro nn stk H locs ls ⟨k2, hm4, hv3_0, hv4_1, hP, hS, hl, rfl⟩ ih5
  refine lv_iload_n hx hb dX12_readSaid_10 rfl (lv_at hl 0 rfl) ?_
  refine lv_bipush (v := 23) hx hb dX12_readSaid_11 (by decide) ?_
  refine lv_icmp_gt (tgt := 30) hx hb dX12_readSaid_13 (by decide) (fun c1 => ?_) (fun c1 => ?_)
  · have c1 : 23 < k2 := (nI_ltI (a := 23) (b := k2) (by omega) (by omega)).mp c1
    refine zz_join (pcJ := 46) (fun stk H locs ls => ((r1 = 0 → k2 < 24)) ∧ va_P (dC, dI) vwCl (mw ar cy st sl) H ∧ va_S (MA ar s.heap.size) s.heap H locs ∧ lv_has ls 4 [(2, .int (nI k2)), (1, .int r1), (0, .ref (ar 0))] ∧ stk = []) ?_ (fun kj6 => ?_)
    · rintro stk H locs ls ⟨hv7_0, hP, hS, hl, rfl⟩
      refine lv_aload_n hx hb dX12_readSaid_46 rfl (lv_at hl 2 rfl) ?_
      refine va_get (D := (dC, dI)) (ci := 11) (v := .int (st 0 44)) (C := RX12) (T := TX12) (N := 47) hx hb hts ii_X12_readSaid hown hK hP 0 rfl rfl 44 (by decide) (hts _ mm_X12_readSaid_1) (fun _ hh => hh) rfl dX12_readSaid_47 ?_
      refine zz_top (v := (nI go)) (by show st 0 44 = _; rw [h44]) ?_
      refine lv_bipush (v := 20) hx hb dX12_readSaid_50 (by decide) ?_
      refine lv_icmp_eq (tgt := 64) hx hb dX12_readSaid_52 (by decide) (fun c2 => ?_) (fun c2 => ?_)
      · have c2 : go = 20 := (nI_eq (a := go) (b := 20) (by omega) (by omega)).mp c2
        refine lv_aload_n hx hb dX12_readSaid_64 rfl (lv_at hl 2 rfl) ?_
        refine lv_iconst (v := 4) hx hb dX12_readSaid_65 (by decide) ?_
        refine va_calli (va_runV (As := [.int 4]) (rest := []) ⟨hx, hb, hml, hown, hts⟩ (m_bad l dC dI ar cy _ hN st sl 4  hG.1) (cwV 1 hts gX12_readSaid_X12_bad rfl rfl rfl (by decide +kernel) ⟨Nat.le_of_ble_eq_true rfl, Nat.le_of_ble_eq_true rfl⟩) ⟨fun a U g mk q => ⟨q.1, mPre.blind q.2⟩, va_recv hK hP (ci := 11) (q0 := 0) rfl rfl, fun U hU hW => ⟨rfl, mPre.of hP hK hU hW⟩⟩ rfl rfl hl.1 rfl (lv_room (Nat.le_of_ble_eq_true rfl)) dX12_readSaid_66 ⟨Nat.le_of_ble_eq_true rfl, Nat.le_of_ble_eq_true rfl⟩) hS (fun q _ h => MA.le hS.1 q h) (MA.le hS.1) (fun r8 x t H locs ht hvm hw hB _ _ hS => ?_)
        have hP := mB.at ht hB
        clear hB ht hvm
        obtain ⟨st9, sl10⟩ := x
        obtain ⟨hG2, hL2, hw⟩ := hw
        have hL : LQ [7, 9] sl sl10 := hL.tr hL2 (by decide)
        clear hL2
        have hP : va_P (dC, dI) vwCl (mw ar cy st9 sl10) _ := hP
        have hG : MG [1, 2, 3, 6, 7, 13, 14, 15, 19, 20, 21, 22] st st9 := hG.tr hG2 (by decide)
        have hGst9 : MG [1, 2, 3, 4, 5, 6, 7, 8, 9, 10, 11, 12, 13, 14, 15, 16, 17, 19, 20, 21, 22] st st9 := hG2
        clear hG2
        obtain rfl := hw
        exact W.zret (v := 0) hx hb hr rfl (fun t ht hW => ⟨⟨0, (st9, sl10), rfl, ⟨hG, hL, Or.inr (⟨rfl, by show st9 0 45 = _; rw [hGst9.2 0 45 (by decide), h45], (NKm.mg hGst9 (by decide) hNK)⟩)⟩, mB.of ht hP⟩, hS.F ht⟩) hS.2.2 dX12_readSaid_69
      · have c2 : ¬ go = 20 := fun hh => c2 ((nI_eq (a := go) (b := 20) (by omega) (by omega)).mpr hh)
        refine lv_aload_n hx hb dX12_readSaid_55 rfl (lv_at hl 2 rfl) ?_
        refine va_get (D := (dC, dI)) (ci := 11) (v := .int (st 0 45)) (C := RX12) (T := TX12) (N := 47) hx hb hts ii_X12_readSaid hown hK hP 0 rfl rfl 45 (by decide) (hts _ mm_X12_readSaid_2) (fun _ hh => hh) rfl dX12_readSaid_56 ?_
        refine zz_top (v := 8) (by show st 0 45 = _; rw [h45]) ?_
        refine lv_bipush (v := 8) hx hb dX12_readSaid_59 (by decide) ?_
        refine lv_icmp_ne (tgt := 70) hx hb dX12_readSaid_61 (by decide) (fun cc => absurd (by decide) cc) (fun _ => ?_)
        refine lv_aload_n hx hb dX12_readSaid_64 rfl (lv_at hl 2 rfl) ?_
        refine lv_iconst (v := 4) hx hb dX12_readSaid_65 (by decide) ?_
        refine va_calli (va_runV (As := [.int 4]) (rest := []) ⟨hx, hb, hml, hown, hts⟩ (m_bad l dC dI ar cy _ hN st sl 4  hG.1) (cwV 1 hts gX12_readSaid_X12_bad rfl rfl rfl (by decide +kernel) ⟨Nat.le_of_ble_eq_true rfl, Nat.le_of_ble_eq_true rfl⟩) ⟨fun a U g mk q => ⟨q.1, mPre.blind q.2⟩, va_recv hK hP (ci := 11) (q0 := 0) rfl rfl, fun U hU hW => ⟨rfl, mPre.of hP hK hU hW⟩⟩ rfl rfl hl.1 rfl (lv_room (Nat.le_of_ble_eq_true rfl)) dX12_readSaid_66 ⟨Nat.le_of_ble_eq_true rfl, Nat.le_of_ble_eq_true rfl⟩) hS (fun q _ h => MA.le hS.1 q h) (MA.le hS.1) (fun r11 x t H locs ht hvm hw hB _ _ hS => ?_)
        have hP := mB.at ht hB
        clear hB ht hvm
        obtain ⟨st12, sl13⟩ := x
        obtain ⟨hG2, hL2, hw⟩ := hw
        have hL : LQ [7, 9] sl sl13 := hL.tr hL2 (by decide)
        clear hL2
        have hP : va_P (dC, dI) vwCl (mw ar cy st12 sl13) _ := hP
        have hG : MG [1, 2, 3, 6, 7, 13, 14, 15, 19, 20, 21, 22] st st12 := hG.tr hG2 (by decide)
        have hGst12 : MG [1, 2, 3, 4, 5, 6, 7, 8, 9, 10, 11, 12, 13, 14, 15, 16, 17, 19, 20, 21, 22] st st12 := hG2
        clear hG2
        obtain rfl := hw
        exact W.zret (v := 0) hx hb hr rfl (fun t ht hW => ⟨⟨0, (st12, sl13), rfl, ⟨hG, hL, Or.inr (⟨rfl, by show st12 0 45 = _; rw [hGst12.2 0 45 (by decide), h45], (NKm.mg hGst12 (by decide) hNK)⟩)⟩, mB.of ht hP⟩, hS.F ht⟩) hS.2.2 dX12_readSaid_69
    refine lv_iload_n hx hb dX12_readSaid_30 rfl (lv_at hl 1 rfl) ?_
    refine lv_if_ne (tgt := 46) hx hb dX12_readSaid_31 (by decide) (fun c4 => ?_) (fun c4 => ?_)
    · exact kj6 _ _ _ _ ⟨fun hh => by first | omega | exact absurd hh (by assumption), hP, hS, lv_sub hl [0, 1, 2] rfl, rfl⟩
    · refine lv_iload_n hx hb dX12_readSaid_34 rfl (lv_at hl 0 rfl) ?_
      refine lv_bipush (v := 23) hx hb dX12_readSaid_35 (by decide) ?_
      refine lv_icmp_le (tgt := 46) hx hb dX12_readSaid_37 (by decide) (fun cc => absurd ((nI_leI (a := k2) (b := 23) (by omega) (by omega)).mp cc) (by omega)) (fun _ => ?_)
      refine lv_aload_n hx hb dX12_readSaid_40 rfl (lv_at hl 2 rfl) ?_
      refine lv_iconst (v := 1) hx hb dX12_readSaid_41 (by decide) ?_
      refine va_calli (va_runV (As := [.int 1]) (rest := []) ⟨hx, hb, hml, hown, hts⟩ (m_bad l dC dI ar cy _ hN st sl 1  hG.1) (cwV 1 hts gX12_readSaid_X12_bad rfl rfl rfl (by decide +kernel) ⟨Nat.le_of_ble_eq_true rfl, Nat.le_of_ble_eq_true rfl⟩) ⟨fun a U g mk q => ⟨q.1, mPre.blind q.2⟩, va_recv hK hP (ci := 11) (q0 := 0) rfl rfl, fun U hU hW => ⟨rfl, mPre.of hP hK hU hW⟩⟩ rfl rfl hl.1 rfl (lv_room (Nat.le_of_ble_eq_true rfl)) dX12_readSaid_42 ⟨Nat.le_of_ble_eq_true rfl, Nat.le_of_ble_eq_true rfl⟩) hS (fun q _ h => MA.le hS.1 q h) (MA.le hS.1) (fun r14 x t H locs ht hvm hw hB _ _ hS => ?_)
      have hP := mB.at ht hB
      clear hB ht hvm
      obtain ⟨st15, sl16⟩ := x
      obtain ⟨hG2, hL2, hw⟩ := hw
      have hL : LQ [7, 9] sl sl16 := hL.tr hL2 (by decide)
      clear hL2
      have hP : va_P (dC, dI) vwCl (mw ar cy st15 sl16) _ := hP
      have hG : MG [1, 2, 3, 6, 7, 13, 14, 15, 19, 20, 21, 22] st st15 := hG.tr hG2 (by decide)
      have hGst15 : MG [1, 2, 3, 4, 5, 6, 7, 8, 9, 10, 11, 12, 13, 14, 15, 16, 17, 19, 20, 21, 22] st st15 := hG2
      clear hG2
      obtain rfl := hw
      exact W.zret (v := 0) hx hb hr rfl (fun t ht hW => ⟨⟨0, (st15, sl16), rfl, ⟨hG, hL, Or.inr (⟨rfl, by show st15 0 45 = _; rw [hGst15.2 0 45 (by decide), h45], (NKm.mg hGst15 (by decide) hNK)⟩)⟩, mB.of ht hP⟩, hS.F ht⟩) hS.2.2 dX12_readSaid_45
  · have c1 : ¬ 23 < k2 := fun hh => c1 ((nI_ltI (a := 23) (b := k2) (by omega) (by omega)).mpr hh)
    refine lv_aload_n hx hb dX12_readSaid_16 rfl (lv_at hl 2 rfl) ?_
    refine lv_iload_n hx hb dX12_readSaid_17 rfl (lv_at hl 0 rfl) ?_
    refine va_calli (va_runV (As := [.int (nI k2)]) (rest := []) ⟨hx, hb, hml, hown, hts⟩ (m_isWord l dC dI ar cy _ hN st sl (nI k2)  hG.1) (cwV 1 hts gX12_readSaid_X12_isWord rfl rfl rfl (by decide +kernel) ⟨Nat.le_of_ble_eq_true rfl, Nat.le_of_ble_eq_true rfl⟩) ⟨fun a U g mk q => ⟨q.1, mPre.blind q.2⟩, va_recv hK hP (ci := 11) (q0 := 0) rfl rfl, fun U hU hW => ⟨rfl, mPre.of hP hK hU hW⟩⟩ rfl rfl hl.1 rfl (lv_room (Nat.le_of_ble_eq_true rfl)) dX12_readSaid_18 ⟨Nat.le_of_ble_eq_true rfl, Nat.le_of_ble_eq_true rfl⟩) hS (fun q _ h => MA.le hS.1 q h) (MA.le hS.1) (fun r17 x t H locs ht hvm hw hB _ _ hS => ?_)
    have hP := mB.at ht hB
    clear hB ht hvm
    obtain ⟨rfl, hw⟩ := hw
    have hP : va_P (dC, dI) vwCl (mw ar cy st sl) _ := hP
    rcases hw with rfl | rfl
    · refine lv_if_ne (tgt := 30) hx hb dX12_readSaid_21 (by decide) (fun _ => ?_) (fun cc => absurd cc (by decide))
      refine zz_join (pcJ := 46) (fun stk H locs ls => ((r1 = 0 → k2 < 24)) ∧ va_P (dC, dI) vwCl (mw ar cy st sl) H ∧ va_S (MA ar s.heap.size) s.heap H locs ∧ lv_has ls 4 [(2, .int (nI k2)), (1, .int r1), (0, .ref (ar 0))] ∧ stk = []) ?_ (fun kj18 => ?_)
      · rintro stk H locs ls ⟨hv19_0, hP, hS, hl, rfl⟩
        refine lv_aload_n hx hb dX12_readSaid_46 rfl (lv_at hl 2 rfl) ?_
        refine va_get (D := (dC, dI)) (ci := 11) (v := .int (st 0 44)) (C := RX12) (T := TX12) (N := 47) hx hb hts ii_X12_readSaid hown hK hP 0 rfl rfl 44 (by decide) (hts _ mm_X12_readSaid_1) (fun _ hh => hh) rfl dX12_readSaid_47 ?_
        refine zz_top (v := (nI go)) (by show st 0 44 = _; rw [h44]) ?_
        refine lv_bipush (v := 20) hx hb dX12_readSaid_50 (by decide) ?_
        refine lv_icmp_eq (tgt := 64) hx hb dX12_readSaid_52 (by decide) (fun c7 => ?_) (fun c7 => ?_)
        · have c7 : go = 20 := (nI_eq (a := go) (b := 20) (by omega) (by omega)).mp c7
          refine lv_aload_n hx hb dX12_readSaid_64 rfl (lv_at hl 2 rfl) ?_
          refine lv_iconst (v := 4) hx hb dX12_readSaid_65 (by decide) ?_
          refine va_calli (va_runV (As := [.int 4]) (rest := []) ⟨hx, hb, hml, hown, hts⟩ (m_bad l dC dI ar cy _ hN st sl 4  hG.1) (cwV 1 hts gX12_readSaid_X12_bad rfl rfl rfl (by decide +kernel) ⟨Nat.le_of_ble_eq_true rfl, Nat.le_of_ble_eq_true rfl⟩) ⟨fun a U g mk q => ⟨q.1, mPre.blind q.2⟩, va_recv hK hP (ci := 11) (q0 := 0) rfl rfl, fun U hU hW => ⟨rfl, mPre.of hP hK hU hW⟩⟩ rfl rfl hl.1 rfl (lv_room (Nat.le_of_ble_eq_true rfl)) dX12_readSaid_66 ⟨Nat.le_of_ble_eq_true rfl, Nat.le_of_ble_eq_true rfl⟩) hS (fun q _ h => MA.le hS.1 q h) (MA.le hS.1) (fun r20 x t H locs ht hvm hw hB _ _ hS => ?_)
          have hP := mB.at ht hB
          clear hB ht hvm
          obtain ⟨st21, sl22⟩ := x
          obtain ⟨hG2, hL2, hw⟩ := hw
          have hL : LQ [7, 9] sl sl22 := hL.tr hL2 (by decide)
          clear hL2
          have hP : va_P (dC, dI) vwCl (mw ar cy st21 sl22) _ := hP
          have hG : MG [1, 2, 3, 6, 7, 13, 14, 15, 19, 20, 21, 22] st st21 := hG.tr hG2 (by decide)
          have hGst21 : MG [1, 2, 3, 4, 5, 6, 7, 8, 9, 10, 11, 12, 13, 14, 15, 16, 17, 19, 20, 21, 22] st st21 := hG2
          clear hG2
          obtain rfl := hw
          exact W.zret (v := 0) hx hb hr rfl (fun t ht hW => ⟨⟨0, (st21, sl22), rfl, ⟨hG, hL, Or.inr (⟨rfl, by show st21 0 45 = _; rw [hGst21.2 0 45 (by decide), h45], (NKm.mg hGst21 (by decide) hNK)⟩)⟩, mB.of ht hP⟩, hS.F ht⟩) hS.2.2 dX12_readSaid_69
        · have c7 : ¬ go = 20 := fun hh => c7 ((nI_eq (a := go) (b := 20) (by omega) (by omega)).mpr hh)
          refine lv_aload_n hx hb dX12_readSaid_55 rfl (lv_at hl 2 rfl) ?_
          refine va_get (D := (dC, dI)) (ci := 11) (v := .int (st 0 45)) (C := RX12) (T := TX12) (N := 47) hx hb hts ii_X12_readSaid hown hK hP 0 rfl rfl 45 (by decide) (hts _ mm_X12_readSaid_2) (fun _ hh => hh) rfl dX12_readSaid_56 ?_
          refine zz_top (v := 8) (by show st 0 45 = _; rw [h45]) ?_
          refine lv_bipush (v := 8) hx hb dX12_readSaid_59 (by decide) ?_
          refine lv_icmp_ne (tgt := 70) hx hb dX12_readSaid_61 (by decide) (fun cc => absurd (by decide) cc) (fun _ => ?_)
          refine lv_aload_n hx hb dX12_readSaid_64 rfl (lv_at hl 2 rfl) ?_
          refine lv_iconst (v := 4) hx hb dX12_readSaid_65 (by decide) ?_
          refine va_calli (va_runV (As := [.int 4]) (rest := []) ⟨hx, hb, hml, hown, hts⟩ (m_bad l dC dI ar cy _ hN st sl 4  hG.1) (cwV 1 hts gX12_readSaid_X12_bad rfl rfl rfl (by decide +kernel) ⟨Nat.le_of_ble_eq_true rfl, Nat.le_of_ble_eq_true rfl⟩) ⟨fun a U g mk q => ⟨q.1, mPre.blind q.2⟩, va_recv hK hP (ci := 11) (q0 := 0) rfl rfl, fun U hU hW => ⟨rfl, mPre.of hP hK hU hW⟩⟩ rfl rfl hl.1 rfl (lv_room (Nat.le_of_ble_eq_true rfl)) dX12_readSaid_66 ⟨Nat.le_of_ble_eq_true rfl, Nat.le_of_ble_eq_true rfl⟩) hS (fun q _ h => MA.le hS.1 q h) (MA.le hS.1) (fun r23 x t H locs ht hvm hw hB _ _ hS => ?_)
          have hP := mB.at ht hB
          clear hB ht hvm
          obtain ⟨st24, sl25⟩ := x
          obtain ⟨hG2, hL2, hw⟩ := hw
          have hL : LQ [7, 9] sl sl25 := hL.tr hL2 (by decide)
          clear hL2
          have hP : va_P (dC, dI) vwCl (mw ar cy st24 sl25) _ := hP
          have hG : MG [1, 2, 3, 6, 7, 13, 14, 15, 19, 20, 21, 22] st st24 := hG.tr hG2 (by decide)
          have hGst24 : MG [1, 2, 3, 4, 5, 6, 7, 8, 9, 10, 11, 12, 13, 14, 15, 16, 17, 19, 20, 21, 22] st st24 := hG2
          clear hG2
          obtain rfl := hw
          exact W.zret (v := 0) hx hb hr rfl (fun t ht hW => ⟨⟨0, (st24, sl25), rfl, ⟨hG, hL, Or.inr (⟨rfl, by show st24 0 45 = _; rw [hGst24.2 0 45 (by decide), h45], (NKm.mg hGst24 (by decide) hNK)⟩)⟩, mB.of ht hP⟩, hS.F ht⟩) hS.2.2 dX12_readSaid_69
      refine lv_iload_n hx hb dX12_readSaid_30 rfl (lv_at hl 1 rfl) ?_
      refine lv_if_ne (tgt := 46) hx hb dX12_readSaid_31 (by decide) (fun c9 => ?_) (fun c9 => ?_)
      · exact kj18 _ _ _ _ ⟨fun hh => by first | omega | exact absurd hh (by assumption), hP, hS, lv_sub hl [0, 1, 2] rfl, rfl⟩
      · refine lv_iload_n hx hb dX12_readSaid_34 rfl (lv_at hl 0 rfl) ?_
        refine lv_bipush (v := 23) hx hb dX12_readSaid_35 (by decide) ?_
        refine lv_icmp_le (tgt := 46) hx hb dX12_readSaid_37 (by decide) (fun _ => ?_) (fun cc => absurd ((nI_leI (a := k2) (b := 23) (by omega) (by omega)).mpr (by omega)) cc)
        exact kj18 _ _ _ _ ⟨fun hh => by first | omega | exact absurd hh (by assumption), hP, hS, lv_sub hl [0, 1, 2] rfl, rfl⟩
    · refine lv_if_ne (tgt := 30) hx hb dX12_readSaid_21 (by decide) (fun cc => absurd (by decide) cc) (fun _ => ?_)
      refine lv_iinc (v := (nI (k2 + 1))) (lv' := [(2, .int (nI (k2 + 1))), (1, .int r1), (0, .ref (ar 0))]) hx hb dX12_readSaid_24 hl (k := 0) rfl (nI_add k2 1) (by decide) rfl (fun ls hl => ?_)
      refine lv_goto (tgt := 10) hx hb dX12_readSaid_27 (by decide) ?_
      exact ih5 (25 - (k2 + 1)) _ _ _ _ (by omega) ⟨(k2 + 1), rfl, by omega, by omega, hP, hS, lv_sub hl [0, 1, 2] rfl, rfl⟩
set_option maxHeartbeats 4000000 in
set_option maxRecDepth 100000 in
theorem m_readAnd_8 (l : Launch) (dC : Nat → ClassId) (dI : Nat → Nat → Nat) (ar : Nat → Nat) (cy : Nat → ClassId) (sz : Nat) (hN : MN ar) (st : Nat → Nat → Int32) (sl : Nat → Nat → Int64) (gn : Nat) (go : Nat) (ga gb : Nat) (hI : MI st) (hT : TS st ga gb) (h43 : st 0 43 = nI gn) (h44 : st 0 44 = nI go) (h45 : st 0 45 = 8) (hgn : gn ≤ 2 * go) (hgo : go ≤ 20) (hNK : NKm st) : Met l yX12_readAnd wsX12_readAnd ({ frames := 4, cells := 0, slots := 0, locals := 92 }) (va_Pc [.ref (ar 0)] (mPre dC dI ar cy sz st sl)) (va_Qi (fun (r : Int32) (x : MT) => MG [1, 2, 3, 6, 7, 13, 14, 15, 19, 20, 21, 22] st x.1 ∧ LQ [7, 9] sl x.2 ∧ ((∃ g : Nat, ∃ n1 : Nat, ∃ o1 : Nat, ∃ t1 : Nat, r = 1 ∧ TS x.1 g gb ∧ ga ≤ g ∧ x.1 0 43 = nI n1 ∧ x.1 0 44 = nI o1 ∧ x.1 0 45 = 8 ∧ x.1 0 46 = nI t1 ∧ t1 < n1 ∧ n1 + 2 * go + 1 ≤ gn + 2 * o1 ∧ go + 1 ≤ o1 ∧ o1 ≤ 20 ∧ gn ≤ n1 ∧ NKm x.1) ∨ (r = 0 ∧ x.1 0 45 = 8 ∧ NKm x.1))) (mB dC dI ar cy) (MA ar sz)) 0 0 (MA ar sz) := by
  refine Met.ofW (cc := cX12_readAnd) (maxL := 2) (ret := (some .boolean)) (by decide) rfl ?_
  intro p e s m args below meth c s₁ B hml hv
  obtain ⟨rfl, hsz, hP, hK⟩ := hv
  have hx := B.exec
  have hb := B.bytes
  have hr := B.returns
  have hts := atoms_spec (ws := wsX12_readAnd) B.pre
  have hown : s.vm.findClass RX12 = some m.cls := findClass_of_methodNamed B.named
  subst hsz
  have hS : va_S (MA ar s.heap.size) s.heap s.heap [] := va_S.rf
  have hG : MG [1, 2, 3, 6, 7, 13, 14, 15, 19, 20, 21, 22] st st := MG.rf hI
  have hl := lv_entry ([.ref (ar 0)]) (n := 2) (Nat.le_of_ble_eq_true rfl)
  rw [lg_entry_eq]
  generalize (lg_sl ([.ref (ar 0)]) ++ List.replicate (2 - (lg_sl ([.ref (ar 0)])).length) Slot.unset).toArray = ls at hl ⊢
  have hl : lv_has ls 2 [(0, .ref (ar 0))] := hl
  clear hI
  have hL : LQ [7, 9] sl sl := LQ.rf
  have hTc := hT.2.2.1
  have hTd := hT.2.2.2
  have hga : ga ≤ ga := Nat.le_refl ga
  refine lv_aload_n hx hb dX12_readAnd_0 rfl (lv_at hl 0 rfl) ?_
  refine va_calli (va_runV (As := []) (rest := []) ⟨hx, hb, hml, hown, hts⟩ (m_readSaid_8 l dC dI ar cy _ hN st sl gn go ga gb  hG.1 ((⟨by rw [hT.1], by rw [hT.2.1], by omega, by omega⟩ : TS st ga gb)) (by rw [h43]) (by rw [h44]) (by rw [h45]) (by omega) (by omega) (hNK)) (cwV 0 hts gX12_readAnd_X12_readSaid rfl rfl rfl (by decide +kernel) ⟨Nat.le_of_ble_eq_true rfl, Nat.le_of_ble_eq_true rfl⟩) ⟨fun a U g mk q => ⟨q.1, mPre.blind q.2⟩, va_recv hK hP (ci := 11) (q0 := 0) rfl rfl, fun U hU hW => ⟨rfl, mPre.of hP hK hU hW⟩⟩ rfl rfl hl.1 rfl (lv_room (Nat.le_of_ble_eq_true rfl)) dX12_readAnd_1 ⟨Nat.le_of_ble_eq_true rfl, Nat.le_of_ble_eq_true rfl⟩) hS (fun q _ h => MA.le hS.1 q h) (MA.le hS.1) (fun r1 x t H locs ht hvm hw hB _ _ hS => ?_)
  have hP := mB.at ht hB
  clear hB ht hvm
  obtain ⟨st2, sl3⟩ := x
  obtain ⟨hG2, hL2, hw⟩ := hw
  have hL : LQ [7, 9] sl sl3 := hL.tr hL2 (by decide)
  clear hL2
  dsimp only at hw
  have hP : va_P (dC, dI) vwCl (mw ar cy st2 sl3) _ := hP
  have hG : MG [1, 2, 3, 6, 7, 13, 14, 15, 19, 20, 21, 22] st st2 := hG.tr hG2 (by decide)
  have hGst2 : MG [1, 2, 3, 6, 7, 13, 14, 15, 19, 20, 21, 22] st st2 := hG2
  clear hG2
  rcases hw with ⟨n4, n5, n6, n7, rfl, hf8, hf9, hf10, hf11, hf12, hf13, hf14, hf15, hf16, hf17, hf18, hf19⟩ | ⟨rfl, hf20, hf21⟩
  · have hf8c := hf8.2.2.1
    have hf8d := hf8.2.2.2
    refine lv_if_ne (tgt := 9) hx hb dX12_readAnd_4 (by decide) (fun _ => ?_) (fun cc => absurd cc (by decide))
    refine lv_aload_n hx hb dX12_readAnd_9 rfl (lv_at hl 0 rfl) ?_
    refine va_get (D := (dC, dI)) (ci := 11) (v := .int (st2 0 46)) (C := RX12) (T := TX12) (N := 47) hx hb hts ii_X12_readAnd hown hK hP 0 rfl rfl 46 (by decide) (hts _ mm_X12_readAnd_1) (fun _ hh => hh) rfl dX12_readAnd_10 ?_
    refine zz_top (v := (nI n7)) (by show st2 0 46 = _; rw [hf13]) ?_
    refine lv_istore_n (lv' := [(1, .int (nI n7)), (0, .ref (ar 0))]) hx hb dX12_readAnd_13 rfl hl (by decide) rfl (fun ls hl => ?_)
    refine zz_wf (fun n stk H locs ls => ∃ k22 : Nat, ∃ st23 : Nat → Nat → Int32, ∃ sl24 : Nat → Nat → Int64, ∃ n25 : Nat, ∃ o26 : Nat, ∃ g27 : Nat, n = 21 - o26 ∧ 0 ≤ k22 ∧ k22 < 60 ∧ st23 0 43 = nI n25 ∧ st23 0 44 = nI o26 ∧ TS st23 g27 gb ∧ ga ≤ g27 ∧ k22 < n25 ∧ n25 + 2 * go + 1 ≤ gn + 2 * o26 ∧ go + 1 ≤ o26 ∧ o26 ≤ 20 ∧ gn ≤ n25 ∧ NKm st23 ∧ st23 0 45 = 8 ∧ va_P (dC, dI) vwCl (mw ar cy st23 sl24) H ∧ MG [1, 2, 3, 6, 7, 13, 14, 15, 19, 20, 21, 22] st st23 ∧ LQ [7, 9] sl sl24 ∧ va_S (MA ar s.heap.size) s.heap H locs ∧ lv_has ls 2 [(1, .int (nI k22)), (0, .ref (ar 0))] ∧ stk = []) ?_ (21 - n6) _ _ _ _ ⟨n7, st2, sl3, n5, n6, n4, rfl, by omega, by omega, by rw [hf10], by rw [hf11], ⟨by rw [hf8.1], by rw [hf8.2.1], by omega, by omega⟩, by omega, by omega, by omega, by omega, by omega, by omega, hf19, by rw [hf12], hP, hG, hL, hS, lv_sub hl [0, 1] rfl, rfl⟩
    rintro nn stk H locs ls ⟨k22, st23, sl24, n25, o26, g27, hm36, hv28_0, hv29_1, en25, eo26, hTg27, hTg27g, hv30_0, hv31_1, hv32_2, hv33_3, hv34_4, hv35_5, hv36_6, hP, hG, hL, hS, hl, rfl⟩ ih37
    have hTg27c := hTg27.2.2.1
    have hTg27d := hTg27.2.2.2
    refine lv_aload_n hx hb dX12_readAnd_14 rfl (lv_at hl 1 rfl) ?_
    refine lv_bipush (v := 14) hx hb dX12_readAnd_15 (by decide) ?_
    refine va_calli (va_runV (As := [.int 14]) (rest := []) ⟨hx, hb, hml, hown, hts⟩ (m_isWord l dC dI ar cy _ hN st23 sl24 14  hG.1) (cwV 1 hts gX12_readAnd_X12_isWord rfl rfl rfl (by decide +kernel) ⟨Nat.le_of_ble_eq_true rfl, Nat.le_of_ble_eq_true rfl⟩) ⟨fun a U g mk q => ⟨q.1, mPre.blind q.2⟩, va_recv hK hP (ci := 11) (q0 := 0) rfl rfl, fun U hU hW => ⟨rfl, mPre.of hP hK hU hW⟩⟩ rfl rfl hl.1 rfl (lv_room (Nat.le_of_ble_eq_true rfl)) dX12_readAnd_17 ⟨Nat.le_of_ble_eq_true rfl, Nat.le_of_ble_eq_true rfl⟩) hS (fun q _ h => MA.le hS.1 q h) (MA.le hS.1) (fun r38 x t H locs ht hvm hw hB _ _ hS => ?_)
    have hP := mB.at ht hB
    clear hB ht hvm
    obtain ⟨rfl, hw⟩ := hw
    have hP : va_P (dC, dI) vwCl (mw ar cy st23 sl24) _ := hP
    rcases hw with rfl | rfl
    · refine lv_if_eq (tgt := 51) hx hb dX12_readAnd_20 (by decide) (fun cc => absurd cc (by decide)) (fun _ => ?_)
      refine lv_aload_n hx hb dX12_readAnd_23 rfl (lv_at hl 1 rfl) ?_
      refine va_callv (va_runV (As := []) (rest := []) ⟨hx, hb, hml, hown, hts⟩ (m_go l dC dI ar cy _ hN st23 sl24 g27 gb  hG.1 ((⟨by rw [hTg27.1], by rw [hTg27.2.1], by omega, by omega⟩ : TS st23 g27 gb))) (cwV 0 hts gX12_readAnd_X12_go rfl rfl rfl (by decide +kernel) ⟨Nat.le_of_ble_eq_true rfl, Nat.le_of_ble_eq_true rfl⟩) ⟨fun a U g mk q => ⟨q.1, mPre.blind q.2⟩, va_recv hK hP (ci := 11) (q0 := 0) rfl rfl, fun U hU hW => ⟨rfl, mPre.of hP hK hU hW⟩⟩ rfl rfl hl.1 rfl (lv_room (Nat.le_of_ble_eq_true rfl)) dX12_readAnd_24 ⟨Nat.le_of_ble_eq_true rfl, Nat.le_of_ble_eq_true rfl⟩) hS (fun q _ h => MA.le hS.1 q h) (MA.le hS.1) (fun x t H locs ht hvm hw hB _ _ hS => ?_)
      have hP := mB.at ht hB
      clear hB ht hvm
      obtain ⟨st40, sl41⟩ := x
      obtain ⟨hG2, hL2, hw⟩ := hw
      have hL : LQ [7, 9] sl sl41 := hL.tr hL2 (by decide)
      clear hL2
      dsimp only at hw
      have hP : va_P (dC, dI) vwCl (mw ar cy st40 sl41) _ := hP
      have hG : MG [1, 2, 3, 6, 7, 13, 14, 15, 19, 20, 21, 22] st st40 := hG.tr hG2 (by decide)
      have hGst40 : MG [1, 2, 3, 6, 7, 8, 9, 10, 11, 12, 13, 14, 15, 16, 19, 20, 21, 22, 23] st23 st40 := hG2
      clear hG2
      obtain ⟨n42, hf43, hf44, hf45⟩ := hw
      have hf43c := hf43.2.2.1
      have hf43d := hf43.2.2.2
      refine lv_aload_n hx hb dX12_readAnd_27 rfl (lv_at hl 1 rfl) ?_
      refine va_calli (va_runV (As := []) (rest := []) ⟨hx, hb, hml, hown, hts⟩ (m_readSaid_8 l dC dI ar cy _ hN st40 sl41 n25 o26 n42 gb  hG.1 ((⟨by rw [hf43.1], by rw [hf43.2.1], by omega, by omega⟩ : TS st40 n42 gb)) (by rw [hGst40.2 0 43 (by decide), en25]) (by rw [hGst40.2 0 44 (by decide), eo26]) (by rw [hGst40.2 0 45 (by decide), hv36_6]) (by omega) (by omega) ((NKm.mg hGst40 (by decide) hv35_5))) (cwV 0 hts gX12_readAnd_X12_readSaid rfl rfl rfl (by decide +kernel) ⟨Nat.le_of_ble_eq_true rfl, Nat.le_of_ble_eq_true rfl⟩) ⟨fun a U g mk q => ⟨q.1, mPre.blind q.2⟩, va_recv hK hP (ci := 11) (q0 := 0) rfl rfl, fun U hU hW => ⟨rfl, mPre.of hP hK hU hW⟩⟩ rfl rfl hl.1 rfl (lv_room (Nat.le_of_ble_eq_true rfl)) dX12_readAnd_28 ⟨Nat.le_of_ble_eq_true rfl, Nat.le_of_ble_eq_true rfl⟩) hS (fun q _ h => MA.le hS.1 q h) (MA.le hS.1) (fun r46 x t H locs ht hvm hw hB _ _ hS => ?_)
      have hP := mB.at ht hB
      clear hB ht hvm
      obtain ⟨st47, sl48⟩ := x
      obtain ⟨hG2, hL2, hw⟩ := hw
      have hL : LQ [7, 9] sl sl48 := hL.tr hL2 (by decide)
      clear hL2
      dsimp only at hw
      have hP : va_P (dC, dI) vwCl (mw ar cy st47 sl48) _ := hP
      have hG : MG [1, 2, 3, 6, 7, 13, 14, 15, 19, 20, 21, 22] st st47 := hG.tr hG2 (by decide)
      have hGst47 : MG [1, 2, 3, 6, 7, 13, 14, 15, 19, 20, 21, 22] st40 st47 := hG2
      clear hG2
      rcases hw with ⟨n49, n50, n51, n52, rfl, hf53, hf54, hf55, hf56, hf57, hf58, hf59, hf60, hf61, hf62, hf63, hf64⟩ | ⟨rfl, hf65, hf66⟩
      · have hf53c := hf53.2.2.1
        have hf53d := hf53.2.2.2
        refine lv_if_ne (tgt := 36) hx hb dX12_readAnd_31 (by decide) (fun _ => ?_) (fun cc => absurd cc (by decide))
        refine lv_aload_n hx hb dX12_readAnd_36 rfl (lv_at hl 1 rfl) ?_
        refine lv_iconst (v := 2) hx hb dX12_readAnd_37 (by decide) ?_
        refine lv_iload_n hx hb dX12_readAnd_38 rfl (lv_at hl 0 rfl) ?_
        refine lv_aload_n hx hb dX12_readAnd_39 rfl (lv_at hl 1 rfl) ?_
        refine va_get (D := (dC, dI)) (ci := 11) (v := .int (st47 0 46)) (C := RX12) (T := TX12) (N := 47) hx hb hts ii_X12_readAnd hown hK hP 0 rfl rfl 46 (by decide) (hts _ mm_X12_readAnd_1) (fun _ hh => hh) rfl dX12_readAnd_40 ?_
        refine zz_top (v := (nI n52)) (by show st47 0 46 = _; rw [hf58]) ?_
        refine lv_iconst (v := 0) hx hb dX12_readAnd_43 (by decide) ?_
        refine va_calli (va_runV (As := [.int 2, .int (nI k22), .int (nI n52), .int 0]) (rest := []) ⟨hx, hb, hml, hown, hts⟩ (m_saysOne2 l dC dI ar cy _ hN st47 sl48 k22 n52 0 n50 (by omega) (by omega) hG.1 (by rw [hf55]) (by omega) (hf64) (by omega) (by omega)) (cwV 4 hts gX12_readAnd_X12_saysOne rfl rfl rfl (by decide +kernel) ⟨Nat.le_of_ble_eq_true rfl, Nat.le_of_ble_eq_true rfl⟩) ⟨fun a U g mk q => ⟨q.1, mPre.blind q.2⟩, va_recv hK hP (ci := 11) (q0 := 0) rfl rfl, fun U hU hW => ⟨rfl, mPre.of hP hK hU hW⟩⟩ rfl rfl hl.1 rfl (lv_room (Nat.le_of_ble_eq_true rfl)) dX12_readAnd_44 ⟨Nat.le_of_ble_eq_true rfl, Nat.le_of_ble_eq_true rfl⟩) hS (fun q _ h => MA.le hS.1 q h) (MA.le hS.1) (fun r67 x t H locs ht hvm hw hB _ _ hS => ?_)
        have hP := mB.at ht hB
        clear hB ht hvm
        obtain ⟨st68, sl69⟩ := x
        obtain ⟨hG2, hL2, hw⟩ := hw
        have hL : LQ [7, 9] sl sl69 := hL.tr hL2 (by decide)
        clear hL2
        dsimp only at hw
        have hP : va_P (dC, dI) vwCl (mw ar cy st68 sl69) _ := hP
        have hG : MG [1, 2, 3, 6, 7, 13, 14, 15, 19, 20, 21, 22] st st68 := hG.tr hG2 (by decide)
        have hGst68 : MG [1, 2, 3, 4, 5, 6, 7, 10, 11, 12, 13, 14, 15, 16, 17, 19, 20, 21, 22, 23] st47 st68 := hG2
        clear hG2
        obtain ⟨n70, rfl, hf71, hf72, hf73⟩ := hw
        refine lv_istore_n (lv' := [(1, .int (nI n70)), (0, .ref (ar 0))]) hx hb dX12_readAnd_47 rfl hl (by decide) rfl (fun ls hl => ?_)
        refine lv_goto (tgt := 14) hx hb dX12_readAnd_48 (by decide) ?_
        exact ih37 (21 - n51) _ _ _ _ (by omega) ⟨n70, st68, sl69, (n50 + 1), n51, n49, rfl, by omega, by omega, by rw [hf72], by rw [hGst68.2 0 44 (by decide), hf56], ⟨by rw [hGst68.2 0 5 (by decide), hf53.1], by rw [hGst68.2 0 3 (by decide), hf53.2.1], by omega, by omega⟩, by omega, by omega, by omega, by omega, by omega, by omega, hf73, by rw [hGst68.2 0 45 (by decide), hf57], hP, hG, hL, hS, lv_sub hl [0, 1] rfl, rfl⟩
      · refine lv_if_ne (tgt := 36) hx hb dX12_readAnd_31 (by decide) (fun cc => absurd (by decide) cc) (fun _ => ?_)
        refine lv_iconst (v := 0) hx hb dX12_readAnd_34 (by decide) ?_
        exact W.zret (v := 0) hx hb hr rfl (fun t ht hW => ⟨⟨0, (st47, sl48), rfl, ⟨hG, hL, Or.inr (⟨rfl, by show st47 0 45 = _; rw [hf65], hf66⟩)⟩, mB.of ht hP⟩, hS.F ht⟩) hS.2.2 dX12_readAnd_35
    · refine lv_if_eq (tgt := 51) hx hb dX12_readAnd_20 (by decide) (fun _ => ?_) (fun cc => absurd (by decide) cc)
      refine lv_aload_n hx hb dX12_readAnd_51 rfl (lv_at hl 1 rfl) ?_
      refine lv_iload_n hx hb dX12_readAnd_52 rfl (lv_at hl 0 rfl) ?_
      refine va_put (D := (dC, dI)) (ci := 11) (v := .int (nI k22)) (ty := .int) (C := RX12) (T := TX12) (N := 47) hx hb hts ii_X12_readAnd tyX12 tyX12_ok nmX12 hown hK hP (mD hN _ _ _ _) hS 0 rfl rfl 46 (by decide) (hts _ mm_X12_readAnd_1) (fun _ hh => hh) rfl (by decide +kernel) rfl rfl (Nat.le_of_ble_eq_true rfl) dX12_readAnd_53 (fun H locs hP _ hS => ?_)
      have hP : va_P (dC, dI) vwCl (mw ar cy (up2 st23 0 46 (nI k22)) sl24) H := hP
      obtain ⟨st74, est74⟩ : ∃ y, y = up2 st23 0 46 (nI k22) := ⟨_, rfl⟩
      have hG : MG [1, 2, 3, 6, 7, 13, 14, 15, 19, 20, 21, 22] st st74 := by rw [est74]; exact hG.up (rn (n := k22) (by decide : mr 0 46 = 60) (by omega)) (pn (by decide : pcl 0 46 = 12) (by decide))
      rw [← est74] at hP
      refine lv_iconst (v := 1) hx hb dX12_readAnd_56 (by decide) ?_
      exact W.zret (v := 1) hx hb hr rfl (fun t ht hW => ⟨⟨1, (st74, sl24), rfl, ⟨hG, hL, Or.inl (⟨g27, n25, o26, k22, rfl, (show TS st74 g27 gb from ⟨by rw [est74, up2_ne (r := 0) (k := 46) (a := 0) (j := 5) _ _ (by omega), hTg27.1], by rw [est74, up2_ne (r := 0) (k := 46) (a := 0) (j := 3) _ _ (by omega), hTg27.2.1], by omega, by omega⟩), by omega, by show st74 0 43 = (nI n25); rw [est74, up2_ne (r := 0) (k := 46) (a := 0) (j := 43) _ _ (by omega), en25], by show st74 0 44 = (nI o26); rw [est74, up2_ne (r := 0) (k := 46) (a := 0) (j := 44) _ _ (by omega), eo26], by show st74 0 45 = 8; rw [est74, up2_ne (r := 0) (k := 46) (a := 0) (j := 45) _ _ (by omega), hv36_6], by show st74 0 46 = (nI k22); rw [est74, up2_same], by omega, by omega, by omega, by omega, by omega, (show NKm st74 by rw [est74]; exact (show NKm st23 from hv35_5))⟩)⟩, mB.of ht hP⟩, hS.F ht⟩) hS.2.2 dX12_readAnd_57
  · refine lv_if_ne (tgt := 9) hx hb dX12_readAnd_4 (by decide) (fun cc => absurd (by decide) cc) (fun _ => ?_)
    refine lv_iconst (v := 0) hx hb dX12_readAnd_7 (by decide) ?_
    exact W.zret (v := 0) hx hb hr rfl (fun t ht hW => ⟨⟨0, (st2, sl3), rfl, ⟨hG, hL, Or.inr (⟨rfl, by show st2 0 45 = _; rw [hf20], hf21⟩)⟩, mB.of ht hP⟩, hS.F ht⟩) hS.2.2 dX12_readAnd_8
set_option maxHeartbeats 4000000 in
set_option maxRecDepth 100000 in
theorem m_readOr_8 (l : Launch) (dC : Nat → ClassId) (dI : Nat → Nat → Nat) (ar : Nat → Nat) (cy : Nat → ClassId) (sz : Nat) (hN : MN ar) (st : Nat → Nat → Int32) (sl : Nat → Nat → Int64) (gn : Nat) (go : Nat) (ga gb : Nat) (hI : MI st) (hT : TS st ga gb) (h43 : st 0 43 = nI gn) (h44 : st 0 44 = nI go) (h45 : st 0 45 = 8) (hgn : gn ≤ 2 * go) (hgo : go ≤ 20) (hNK : NKm st) : Met l yX12_readOr wsX12_readOr ({ frames := 5, cells := 0, slots := 0, locals := 113 }) (va_Pc [.ref (ar 0)] (mPre dC dI ar cy sz st sl)) (va_Qi (fun (r : Int32) (x : MT) => MG [1, 2, 3, 6, 7, 13, 14, 15, 19, 20, 21, 22] st x.1 ∧ LQ [7, 9] sl x.2 ∧ ((∃ g : Nat, ∃ n1 : Nat, ∃ o1 : Nat, ∃ t1 : Nat, r = 1 ∧ TS x.1 g gb ∧ ga ≤ g ∧ x.1 0 43 = nI n1 ∧ x.1 0 44 = nI o1 ∧ x.1 0 45 = 8 ∧ x.1 0 46 = nI t1 ∧ t1 < n1 ∧ n1 + 2 * go + 1 ≤ gn + 2 * o1 ∧ go + 1 ≤ o1 ∧ o1 ≤ 20 ∧ gn ≤ n1 ∧ NKm x.1) ∨ (r = 0 ∧ x.1 0 45 = 8 ∧ NKm x.1))) (mB dC dI ar cy) (MA ar sz)) 0 0 (MA ar sz) := by
  refine Met.ofW (cc := cX12_readOr) (maxL := 2) (ret := (some .boolean)) (by decide) rfl ?_
  intro p e s m args below meth c s₁ B hml hv
  obtain ⟨rfl, hsz, hP, hK⟩ := hv
  have hx := B.exec
  have hb := B.bytes
  have hr := B.returns
  have hts := atoms_spec (ws := wsX12_readOr) B.pre
  have hown : s.vm.findClass RX12 = some m.cls := findClass_of_methodNamed B.named
  subst hsz
  have hS : va_S (MA ar s.heap.size) s.heap s.heap [] := va_S.rf
  have hG : MG [1, 2, 3, 6, 7, 13, 14, 15, 19, 20, 21, 22] st st := MG.rf hI
  have hl := lv_entry ([.ref (ar 0)]) (n := 2) (Nat.le_of_ble_eq_true rfl)
  rw [lg_entry_eq]
  generalize (lg_sl ([.ref (ar 0)]) ++ List.replicate (2 - (lg_sl ([.ref (ar 0)])).length) Slot.unset).toArray = ls at hl ⊢
  have hl : lv_has ls 2 [(0, .ref (ar 0))] := hl
  clear hI
  have hL : LQ [7, 9] sl sl := LQ.rf
  have hTc := hT.2.2.1
  have hTd := hT.2.2.2
  have hga : ga ≤ ga := Nat.le_refl ga
  refine lv_aload_n hx hb dX12_readOr_0 rfl (lv_at hl 0 rfl) ?_
  refine va_calli (va_runV (As := []) (rest := []) ⟨hx, hb, hml, hown, hts⟩ (m_readAnd_8 l dC dI ar cy _ hN st sl gn go ga gb  hG.1 ((⟨by rw [hT.1], by rw [hT.2.1], by omega, by omega⟩ : TS st ga gb)) (by rw [h43]) (by rw [h44]) (by rw [h45]) (by omega) (by omega) (hNK)) (cwV 0 hts gX12_readOr_X12_readAnd rfl rfl rfl (by decide +kernel) ⟨Nat.le_of_ble_eq_true rfl, Nat.le_of_ble_eq_true rfl⟩) ⟨fun a U g mk q => ⟨q.1, mPre.blind q.2⟩, va_recv hK hP (ci := 11) (q0 := 0) rfl rfl, fun U hU hW => ⟨rfl, mPre.of hP hK hU hW⟩⟩ rfl rfl hl.1 rfl (lv_room (Nat.le_of_ble_eq_true rfl)) dX12_readOr_1 ⟨Nat.le_of_ble_eq_true rfl, Nat.le_of_ble_eq_true rfl⟩) hS (fun q _ h => MA.le hS.1 q h) (MA.le hS.1) (fun r1 x t H locs ht hvm hw hB _ _ hS => ?_)
  have hP := mB.at ht hB
  clear hB ht hvm
  obtain ⟨st2, sl3⟩ := x
  obtain ⟨hG2, hL2, hw⟩ := hw
  have hL : LQ [7, 9] sl sl3 := hL.tr hL2 (by decide)
  clear hL2
  dsimp only at hw
  have hP : va_P (dC, dI) vwCl (mw ar cy st2 sl3) _ := hP
  have hG : MG [1, 2, 3, 6, 7, 13, 14, 15, 19, 20, 21, 22] st st2 := hG.tr hG2 (by decide)
  have hGst2 : MG [1, 2, 3, 6, 7, 13, 14, 15, 19, 20, 21, 22] st st2 := hG2
  clear hG2
  rcases hw with ⟨n4, n5, n6, n7, rfl, hf8, hf9, hf10, hf11, hf12, hf13, hf14, hf15, hf16, hf17, hf18, hf19⟩ | ⟨rfl, hf20, hf21⟩
  · have hf8c := hf8.2.2.1
    have hf8d := hf8.2.2.2
    refine lv_if_ne (tgt := 9) hx hb dX12_readOr_4 (by decide) (fun _ => ?_) (fun cc => absurd cc (by decide))
    refine lv_aload_n hx hb dX12_readOr_9 rfl (lv_at hl 0 rfl) ?_
    refine va_get (D := (dC, dI)) (ci := 11) (v := .int (st2 0 46)) (C := RX12) (T := TX12) (N := 47) hx hb hts ii_X12_readOr hown hK hP 0 rfl rfl 46 (by decide) (hts _ mm_X12_readOr_1) (fun _ hh => hh) rfl dX12_readOr_10 ?_
    refine zz_top (v := (nI n7)) (by show st2 0 46 = _; rw [hf13]) ?_
    refine lv_istore_n (lv' := [(1, .int (nI n7)), (0, .ref (ar 0))]) hx hb dX12_readOr_13 rfl hl (by decide) rfl (fun ls hl => ?_)
    refine zz_wf (fun n stk H locs ls => ∃ k22 : Nat, ∃ st23 : Nat → Nat → Int32, ∃ sl24 : Nat → Nat → Int64, ∃ n25 : Nat, ∃ o26 : Nat, ∃ g27 : Nat, n = 21 - o26 ∧ 0 ≤ k22 ∧ k22 < 60 ∧ st23 0 43 = nI n25 ∧ st23 0 44 = nI o26 ∧ TS st23 g27 gb ∧ ga ≤ g27 ∧ k22 < n25 ∧ n25 + 2 * go + 1 ≤ gn + 2 * o26 ∧ go + 1 ≤ o26 ∧ o26 ≤ 20 ∧ gn ≤ n25 ∧ NKm st23 ∧ st23 0 45 = 8 ∧ va_P (dC, dI) vwCl (mw ar cy st23 sl24) H ∧ MG [1, 2, 3, 6, 7, 13, 14, 15, 19, 20, 21, 22] st st23 ∧ LQ [7, 9] sl sl24 ∧ va_S (MA ar s.heap.size) s.heap H locs ∧ lv_has ls 2 [(1, .int (nI k22)), (0, .ref (ar 0))] ∧ stk = []) ?_ (21 - n6) _ _ _ _ ⟨n7, st2, sl3, n5, n6, n4, rfl, by omega, by omega, by rw [hf10], by rw [hf11], ⟨by rw [hf8.1], by rw [hf8.2.1], by omega, by omega⟩, by omega, by omega, by omega, by omega, by omega, by omega, hf19, by rw [hf12], hP, hG, hL, hS, lv_sub hl [0, 1] rfl, rfl⟩
    rintro nn stk H locs ls ⟨k22, st23, sl24, n25, o26, g27, hm36, hv28_0, hv29_1, en25, eo26, hTg27, hTg27g, hv30_0, hv31_1, hv32_2, hv33_3, hv34_4, hv35_5, hv36_6, hP, hG, hL, hS, hl, rfl⟩ ih37
    have hTg27c := hTg27.2.2.1
    have hTg27d := hTg27.2.2.2
    refine lv_aload_n hx hb dX12_readOr_14 rfl (lv_at hl 1 rfl) ?_
    refine lv_bipush (v := 13) hx hb dX12_readOr_15 (by decide) ?_
    refine va_calli (va_runV (As := [.int 13]) (rest := []) ⟨hx, hb, hml, hown, hts⟩ (m_isWord l dC dI ar cy _ hN st23 sl24 13  hG.1) (cwV 1 hts gX12_readOr_X12_isWord rfl rfl rfl (by decide +kernel) ⟨Nat.le_of_ble_eq_true rfl, Nat.le_of_ble_eq_true rfl⟩) ⟨fun a U g mk q => ⟨q.1, mPre.blind q.2⟩, va_recv hK hP (ci := 11) (q0 := 0) rfl rfl, fun U hU hW => ⟨rfl, mPre.of hP hK hU hW⟩⟩ rfl rfl hl.1 rfl (lv_room (Nat.le_of_ble_eq_true rfl)) dX12_readOr_17 ⟨Nat.le_of_ble_eq_true rfl, Nat.le_of_ble_eq_true rfl⟩) hS (fun q _ h => MA.le hS.1 q h) (MA.le hS.1) (fun r38 x t H locs ht hvm hw hB _ _ hS => ?_)
    have hP := mB.at ht hB
    clear hB ht hvm
    obtain ⟨rfl, hw⟩ := hw
    have hP : va_P (dC, dI) vwCl (mw ar cy st23 sl24) _ := hP
    rcases hw with rfl | rfl
    · refine lv_if_eq (tgt := 51) hx hb dX12_readOr_20 (by decide) (fun cc => absurd cc (by decide)) (fun _ => ?_)
      refine lv_aload_n hx hb dX12_readOr_23 rfl (lv_at hl 1 rfl) ?_
      refine va_callv (va_runV (As := []) (rest := []) ⟨hx, hb, hml, hown, hts⟩ (m_go l dC dI ar cy _ hN st23 sl24 g27 gb  hG.1 ((⟨by rw [hTg27.1], by rw [hTg27.2.1], by omega, by omega⟩ : TS st23 g27 gb))) (cwV 0 hts gX12_readOr_X12_go rfl rfl rfl (by decide +kernel) ⟨Nat.le_of_ble_eq_true rfl, Nat.le_of_ble_eq_true rfl⟩) ⟨fun a U g mk q => ⟨q.1, mPre.blind q.2⟩, va_recv hK hP (ci := 11) (q0 := 0) rfl rfl, fun U hU hW => ⟨rfl, mPre.of hP hK hU hW⟩⟩ rfl rfl hl.1 rfl (lv_room (Nat.le_of_ble_eq_true rfl)) dX12_readOr_24 ⟨Nat.le_of_ble_eq_true rfl, Nat.le_of_ble_eq_true rfl⟩) hS (fun q _ h => MA.le hS.1 q h) (MA.le hS.1) (fun x t H locs ht hvm hw hB _ _ hS => ?_)
      have hP := mB.at ht hB
      clear hB ht hvm
      obtain ⟨st40, sl41⟩ := x
      obtain ⟨hG2, hL2, hw⟩ := hw
      have hL : LQ [7, 9] sl sl41 := hL.tr hL2 (by decide)
      clear hL2
      dsimp only at hw
      have hP : va_P (dC, dI) vwCl (mw ar cy st40 sl41) _ := hP
      have hG : MG [1, 2, 3, 6, 7, 13, 14, 15, 19, 20, 21, 22] st st40 := hG.tr hG2 (by decide)
      have hGst40 : MG [1, 2, 3, 6, 7, 8, 9, 10, 11, 12, 13, 14, 15, 16, 19, 20, 21, 22, 23] st23 st40 := hG2
      clear hG2
      obtain ⟨n42, hf43, hf44, hf45⟩ := hw
      have hf43c := hf43.2.2.1
      have hf43d := hf43.2.2.2
      refine lv_aload_n hx hb dX12_readOr_27 rfl (lv_at hl 1 rfl) ?_
      refine va_calli (va_runV (As := []) (rest := []) ⟨hx, hb, hml, hown, hts⟩ (m_readAnd_8 l dC dI ar cy _ hN st40 sl41 n25 o26 n42 gb  hG.1 ((⟨by rw [hf43.1], by rw [hf43.2.1], by omega, by omega⟩ : TS st40 n42 gb)) (by rw [hGst40.2 0 43 (by decide), en25]) (by rw [hGst40.2 0 44 (by decide), eo26]) (by rw [hGst40.2 0 45 (by decide), hv36_6]) (by omega) (by omega) ((NKm.mg hGst40 (by decide) hv35_5))) (cwV 0 hts gX12_readOr_X12_readAnd rfl rfl rfl (by decide +kernel) ⟨Nat.le_of_ble_eq_true rfl, Nat.le_of_ble_eq_true rfl⟩) ⟨fun a U g mk q => ⟨q.1, mPre.blind q.2⟩, va_recv hK hP (ci := 11) (q0 := 0) rfl rfl, fun U hU hW => ⟨rfl, mPre.of hP hK hU hW⟩⟩ rfl rfl hl.1 rfl (lv_room (Nat.le_of_ble_eq_true rfl)) dX12_readOr_28 ⟨Nat.le_of_ble_eq_true rfl, Nat.le_of_ble_eq_true rfl⟩) hS (fun q _ h => MA.le hS.1 q h) (MA.le hS.1) (fun r46 x t H locs ht hvm hw hB _ _ hS => ?_)
      have hP := mB.at ht hB
      clear hB ht hvm
      obtain ⟨st47, sl48⟩ := x
      obtain ⟨hG2, hL2, hw⟩ := hw
      have hL : LQ [7, 9] sl sl48 := hL.tr hL2 (by decide)
      clear hL2
      dsimp only at hw
      have hP : va_P (dC, dI) vwCl (mw ar cy st47 sl48) _ := hP
      have hG : MG [1, 2, 3, 6, 7, 13, 14, 15, 19, 20, 21, 22] st st47 := hG.tr hG2 (by decide)
      have hGst47 : MG [1, 2, 3, 6, 7, 13, 14, 15, 19, 20, 21, 22] st40 st47 := hG2
      clear hG2
      rcases hw with ⟨n49, n50, n51, n52, rfl, hf53, hf54, hf55, hf56, hf57, hf58, hf59, hf60, hf61, hf62, hf63, hf64⟩ | ⟨rfl, hf65, hf66⟩
      · have hf53c := hf53.2.2.1
        have hf53d := hf53.2.2.2
        refine lv_if_ne (tgt := 36) hx hb dX12_readOr_31 (by decide) (fun _ => ?_) (fun cc => absurd cc (by decide))
        refine lv_aload_n hx hb dX12_readOr_36 rfl (lv_at hl 1 rfl) ?_
        refine lv_iconst (v := 3) hx hb dX12_readOr_37 (by decide) ?_
        refine lv_iload_n hx hb dX12_readOr_38 rfl (lv_at hl 0 rfl) ?_
        refine lv_aload_n hx hb dX12_readOr_39 rfl (lv_at hl 1 rfl) ?_
        refine va_get (D := (dC, dI)) (ci := 11) (v := .int (st47 0 46)) (C := RX12) (T := TX12) (N := 47) hx hb hts ii_X12_readOr hown hK hP 0 rfl rfl 46 (by decide) (hts _ mm_X12_readOr_1) (fun _ hh => hh) rfl dX12_readOr_40 ?_
        refine zz_top (v := (nI n52)) (by show st47 0 46 = _; rw [hf58]) ?_
        refine lv_iconst (v := 0) hx hb dX12_readOr_43 (by decide) ?_
        refine va_calli (va_runV (As := [.int 3, .int (nI k22), .int (nI n52), .int 0]) (rest := []) ⟨hx, hb, hml, hown, hts⟩ (m_saysOne3 l dC dI ar cy _ hN st47 sl48 k22 n52 0 n50 (by omega) (by omega) hG.1 (by rw [hf55]) (by omega) (hf64) (by omega) (by omega)) (cwV 4 hts gX12_readOr_X12_saysOne rfl rfl rfl (by decide +kernel) ⟨Nat.le_of_ble_eq_true rfl, Nat.le_of_ble_eq_true rfl⟩) ⟨fun a U g mk q => ⟨q.1, mPre.blind q.2⟩, va_recv hK hP (ci := 11) (q0 := 0) rfl rfl, fun U hU hW => ⟨rfl, mPre.of hP hK hU hW⟩⟩ rfl rfl hl.1 rfl (lv_room (Nat.le_of_ble_eq_true rfl)) dX12_readOr_44 ⟨Nat.le_of_ble_eq_true rfl, Nat.le_of_ble_eq_true rfl⟩) hS (fun q _ h => MA.le hS.1 q h) (MA.le hS.1) (fun r67 x t H locs ht hvm hw hB _ _ hS => ?_)
        have hP := mB.at ht hB
        clear hB ht hvm
        obtain ⟨st68, sl69⟩ := x
        obtain ⟨hG2, hL2, hw⟩ := hw
        have hL : LQ [7, 9] sl sl69 := hL.tr hL2 (by decide)
        clear hL2
        dsimp only at hw
        have hP : va_P (dC, dI) vwCl (mw ar cy st68 sl69) _ := hP
        have hG : MG [1, 2, 3, 6, 7, 13, 14, 15, 19, 20, 21, 22] st st68 := hG.tr hG2 (by decide)
        have hGst68 : MG [1, 2, 3, 4, 5, 6, 7, 10, 11, 12, 13, 14, 15, 16, 17, 19, 20, 21, 22, 23] st47 st68 := hG2
        clear hG2
        obtain ⟨n70, rfl, hf71, hf72, hf73⟩ := hw
        refine lv_istore_n (lv' := [(1, .int (nI n70)), (0, .ref (ar 0))]) hx hb dX12_readOr_47 rfl hl (by decide) rfl (fun ls hl => ?_)
        refine lv_goto (tgt := 14) hx hb dX12_readOr_48 (by decide) ?_
        exact ih37 (21 - n51) _ _ _ _ (by omega) ⟨n70, st68, sl69, (n50 + 1), n51, n49, rfl, by omega, by omega, by rw [hf72], by rw [hGst68.2 0 44 (by decide), hf56], ⟨by rw [hGst68.2 0 5 (by decide), hf53.1], by rw [hGst68.2 0 3 (by decide), hf53.2.1], by omega, by omega⟩, by omega, by omega, by omega, by omega, by omega, by omega, hf73, by rw [hGst68.2 0 45 (by decide), hf57], hP, hG, hL, hS, lv_sub hl [0, 1] rfl, rfl⟩
      · refine lv_if_ne (tgt := 36) hx hb dX12_readOr_31 (by decide) (fun cc => absurd (by decide) cc) (fun _ => ?_)
        refine lv_iconst (v := 0) hx hb dX12_readOr_34 (by decide) ?_
        exact W.zret (v := 0) hx hb hr rfl (fun t ht hW => ⟨⟨0, (st47, sl48), rfl, ⟨hG, hL, Or.inr (⟨rfl, by show st47 0 45 = _; rw [hf65], hf66⟩)⟩, mB.of ht hP⟩, hS.F ht⟩) hS.2.2 dX12_readOr_35
    · refine lv_if_eq (tgt := 51) hx hb dX12_readOr_20 (by decide) (fun _ => ?_) (fun cc => absurd (by decide) cc)
      refine lv_aload_n hx hb dX12_readOr_51 rfl (lv_at hl 1 rfl) ?_
      refine lv_iload_n hx hb dX12_readOr_52 rfl (lv_at hl 0 rfl) ?_
      refine va_put (D := (dC, dI)) (ci := 11) (v := .int (nI k22)) (ty := .int) (C := RX12) (T := TX12) (N := 47) hx hb hts ii_X12_readOr tyX12 tyX12_ok nmX12 hown hK hP (mD hN _ _ _ _) hS 0 rfl rfl 46 (by decide) (hts _ mm_X12_readOr_1) (fun _ hh => hh) rfl (by decide +kernel) rfl rfl (Nat.le_of_ble_eq_true rfl) dX12_readOr_53 (fun H locs hP _ hS => ?_)
      have hP : va_P (dC, dI) vwCl (mw ar cy (up2 st23 0 46 (nI k22)) sl24) H := hP
      obtain ⟨st74, est74⟩ : ∃ y, y = up2 st23 0 46 (nI k22) := ⟨_, rfl⟩
      have hG : MG [1, 2, 3, 6, 7, 13, 14, 15, 19, 20, 21, 22] st st74 := by rw [est74]; exact hG.up (rn (n := k22) (by decide : mr 0 46 = 60) (by omega)) (pn (by decide : pcl 0 46 = 12) (by decide))
      rw [← est74] at hP
      refine lv_iconst (v := 1) hx hb dX12_readOr_56 (by decide) ?_
      exact W.zret (v := 1) hx hb hr rfl (fun t ht hW => ⟨⟨1, (st74, sl24), rfl, ⟨hG, hL, Or.inl (⟨g27, n25, o26, k22, rfl, (show TS st74 g27 gb from ⟨by rw [est74, up2_ne (r := 0) (k := 46) (a := 0) (j := 5) _ _ (by omega), hTg27.1], by rw [est74, up2_ne (r := 0) (k := 46) (a := 0) (j := 3) _ _ (by omega), hTg27.2.1], by omega, by omega⟩), by omega, by show st74 0 43 = (nI n25); rw [est74, up2_ne (r := 0) (k := 46) (a := 0) (j := 43) _ _ (by omega), en25], by show st74 0 44 = (nI o26); rw [est74, up2_ne (r := 0) (k := 46) (a := 0) (j := 44) _ _ (by omega), eo26], by show st74 0 45 = 8; rw [est74, up2_ne (r := 0) (k := 46) (a := 0) (j := 45) _ _ (by omega), hv36_6], by show st74 0 46 = (nI k22); rw [est74, up2_same], by omega, by omega, by omega, by omega, by omega, (show NKm st74 by rw [est74]; exact (show NKm st23 from hv35_5))⟩)⟩, mB.of ht hP⟩, hS.F ht⟩) hS.2.2 dX12_readOr_57
  · refine lv_if_ne (tgt := 9) hx hb dX12_readOr_4 (by decide) (fun cc => absurd (by decide) cc) (fun _ => ?_)
    refine lv_iconst (v := 0) hx hb dX12_readOr_7 (by decide) ?_
    exact W.zret (v := 0) hx hb hr rfl (fun t ht hW => ⟨⟨0, (st2, sl3), rfl, ⟨hG, hL, Or.inr (⟨rfl, by show st2 0 45 = _; rw [hf20], hf21⟩)⟩, mB.of ht hP⟩, hS.F ht⟩) hS.2.2 dX12_readOr_8
set_option maxHeartbeats 4000000 in
set_option maxRecDepth 100000 in
theorem m_readBracket_8 (l : Launch) (dC : Nat → ClassId) (dI : Nat → Nat → Nat) (ar : Nat → Nat) (cy : Nat → ClassId) (sz : Nat) (hN : MN ar) (st : Nat → Nat → Int32) (sl : Nat → Nat → Int64) (gn : Nat) (go : Nat) (ga gb : Nat) (hI : MI st) (hT : TS st ga gb) (h43 : st 0 43 = nI gn) (h44 : st 0 44 = nI go) (h45 : st 0 45 = 8) (hgn : gn ≤ 2 * go) (hgo : go ≤ 20) (hNK : NKm st) : Met l yX12_readBracket wsX12_readBracket ({ frames := 6, cells := 0, slots := 0, locals := 134 }) (va_Pc [.ref (ar 0)] (mPre dC dI ar cy sz st sl)) (va_Qi (fun (r : Int32) (x : MT) => MG [1, 2, 3, 6, 7, 13, 14, 15, 19, 20, 21, 22] st x.1 ∧ LQ [7, 9] sl x.2 ∧ ((∃ g : Nat, ∃ n1 : Nat, ∃ o1 : Nat, ∃ t1 : Nat, r = 1 ∧ TS x.1 g gb ∧ ga ≤ g ∧ x.1 0 43 = nI n1 ∧ x.1 0 44 = nI o1 ∧ x.1 0 45 = 8 ∧ x.1 0 46 = nI t1 ∧ t1 < n1 ∧ n1 + 2 * go + 1 ≤ gn + 2 * o1 ∧ go + 1 ≤ o1 ∧ o1 ≤ 20 ∧ gn ≤ n1 ∧ NKm x.1) ∨ (r = 0 ∧ x.1 0 45 = 8 ∧ NKm x.1))) (mB dC dI ar cy) (MA ar sz)) 0 0 (MA ar sz) := by
  refine Met.ofW (cc := cX12_readBracket) (maxL := 1) (ret := (some .boolean)) (by decide) rfl ?_
  intro p e s m args below meth c s₁ B hml hv
  obtain ⟨rfl, hsz, hP, hK⟩ := hv
  have hx := B.exec
  have hb := B.bytes
  have hr := B.returns
  have hts := atoms_spec (ws := wsX12_readBracket) B.pre
  have hown : s.vm.findClass RX12 = some m.cls := findClass_of_methodNamed B.named
  subst hsz
  have hS : va_S (MA ar s.heap.size) s.heap s.heap [] := va_S.rf
  have hG : MG [1, 2, 3, 6, 7, 13, 14, 15, 19, 20, 21, 22] st st := MG.rf hI
  have hl := lv_entry ([.ref (ar 0)]) (n := 1) (Nat.le_of_ble_eq_true rfl)
  rw [lg_entry_eq]
  generalize (lg_sl ([.ref (ar 0)]) ++ List.replicate (1 - (lg_sl ([.ref (ar 0)])).length) Slot.unset).toArray = ls at hl ⊢
  have hl : lv_has ls 1 [(0, .ref (ar 0))] := hl
  clear hI
  have hL : LQ [7, 9] sl sl := LQ.rf
  have hTc := hT.2.2.1
  have hTd := hT.2.2.2
  have hga : ga ≤ ga := Nat.le_refl ga
  refine lv_aload_n hx hb dX12_readBracket_0 rfl (lv_at hl 0 rfl) ?_
  refine va_calli (va_runV (As := []) (rest := []) ⟨hx, hb, hml, hown, hts⟩ (m_readOr_8 l dC dI ar cy _ hN st sl gn go ga gb  hG.1 ((⟨by rw [hT.1], by rw [hT.2.1], by omega, by omega⟩ : TS st ga gb)) (by rw [h43]) (by rw [h44]) (by rw [h45]) (by omega) (by omega) (hNK)) (cwV 0 hts gX12_readBracket_X12_readOr rfl rfl rfl (by decide +kernel) ⟨Nat.le_of_ble_eq_true rfl, Nat.le_of_ble_eq_true rfl⟩) ⟨fun a U g mk q => ⟨q.1, mPre.blind q.2⟩, va_recv hK hP (ci := 11) (q0 := 0) rfl rfl, fun U hU hW => ⟨rfl, mPre.of hP hK hU hW⟩⟩ rfl rfl hl.1 rfl (lv_room (Nat.le_of_ble_eq_true rfl)) dX12_readBracket_1 ⟨Nat.le_of_ble_eq_true rfl, Nat.le_of_ble_eq_true rfl⟩) hS (fun q _ h => MA.le hS.1 q h) (MA.le hS.1) (fun r1 x t H locs ht hvm hw hB _ _ hS => ?_)
  have hP := mB.at ht hB
  clear hB ht hvm
  obtain ⟨st2, sl3⟩ := x
  obtain ⟨hG2, hL2, hw⟩ := hw
  have hL : LQ [7, 9] sl sl3 := hL.tr hL2 (by decide)
  clear hL2
  dsimp only at hw
  have hP : va_P (dC, dI) vwCl (mw ar cy st2 sl3) _ := hP
  have hG : MG [1, 2, 3, 6, 7, 13, 14, 15, 19, 20, 21, 22] st st2 := hG.tr hG2 (by decide)
  have hGst2 : MG [1, 2, 3, 6, 7, 13, 14, 15, 19, 20, 21, 22] st st2 := hG2
  clear hG2
  rcases hw with ⟨n4, n5, n6, n7, rfl, hf8, hf9, hf10, hf11, hf12, hf13, hf14, hf15, hf16, hf17, hf18, hf19⟩ | ⟨rfl, hf20, hf21⟩
  · have hf8c := hf8.2.2.1
    have hf8d := hf8.2.2.2
    refine lv_if_ne (tgt := 9) hx hb dX12_readBracket_4 (by decide) (fun _ => ?_) (fun cc => absurd cc (by decide))
    refine lv_aload_n hx hb dX12_readBracket_9 rfl (lv_at hl 0 rfl) ?_
    refine lv_bipush (v := 41) hx hb dX12_readBracket_10 (by decide) ?_
    refine va_calli (va_runV (As := [.int 41]) (rest := []) ⟨hx, hb, hml, hown, hts⟩ (m_isSign l dC dI ar cy _ hN st2 sl3 41  hG.1) (cwV 1 hts gX12_readBracket_X12_isSign rfl rfl rfl (by decide +kernel) ⟨Nat.le_of_ble_eq_true rfl, Nat.le_of_ble_eq_true rfl⟩) ⟨fun a U g mk q => ⟨q.1, mPre.blind q.2⟩, va_recv hK hP (ci := 11) (q0 := 0) rfl rfl, fun U hU hW => ⟨rfl, mPre.of hP hK hU hW⟩⟩ rfl rfl hl.1 rfl (lv_room (Nat.le_of_ble_eq_true rfl)) dX12_readBracket_12 ⟨Nat.le_of_ble_eq_true rfl, Nat.le_of_ble_eq_true rfl⟩) hS (fun q _ h => MA.le hS.1 q h) (MA.le hS.1) (fun r22 x t H locs ht hvm hw hB _ _ hS => ?_)
    have hP := mB.at ht hB
    clear hB ht hvm
    obtain ⟨rfl, hw⟩ := hw
    have hP : va_P (dC, dI) vwCl (mw ar cy st2 sl3) _ := hP
    rcases hw with ⟨rfl, hf23⟩ | rfl
    · refine lv_if_ne (tgt := 24) hx hb dX12_readBracket_15 (by decide) (fun _ => ?_) (fun cc => absurd cc (by decide))
      refine lv_aload_n hx hb dX12_readBracket_24 rfl (lv_at hl 0 rfl) ?_
      refine va_callv (va_runV (As := []) (rest := []) ⟨hx, hb, hml, hown, hts⟩ (m_go l dC dI ar cy _ hN st2 sl3 n4 gb  hG.1 ((⟨by rw [hf8.1], by rw [hf8.2.1], by omega, by omega⟩ : TS st2 n4 gb))) (cwV 0 hts gX12_readBracket_X12_go rfl rfl rfl (by decide +kernel) ⟨Nat.le_of_ble_eq_true rfl, Nat.le_of_ble_eq_true rfl⟩) ⟨fun a U g mk q => ⟨q.1, mPre.blind q.2⟩, va_recv hK hP (ci := 11) (q0 := 0) rfl rfl, fun U hU hW => ⟨rfl, mPre.of hP hK hU hW⟩⟩ rfl rfl hl.1 rfl (lv_room (Nat.le_of_ble_eq_true rfl)) dX12_readBracket_25 ⟨Nat.le_of_ble_eq_true rfl, Nat.le_of_ble_eq_true rfl⟩) hS (fun q _ h => MA.le hS.1 q h) (MA.le hS.1) (fun x t H locs ht hvm hw hB _ _ hS => ?_)
      have hP := mB.at ht hB
      clear hB ht hvm
      obtain ⟨st25, sl26⟩ := x
      obtain ⟨hG2, hL2, hw⟩ := hw
      have hL : LQ [7, 9] sl sl26 := hL.tr hL2 (by decide)
      clear hL2
      dsimp only at hw
      have hP : va_P (dC, dI) vwCl (mw ar cy st25 sl26) _ := hP
      have hG : MG [1, 2, 3, 6, 7, 13, 14, 15, 19, 20, 21, 22] st st25 := hG.tr hG2 (by decide)
      have hGst25 : MG [1, 2, 3, 6, 7, 8, 9, 10, 11, 12, 13, 14, 15, 16, 19, 20, 21, 22, 23] st2 st25 := hG2
      clear hG2
      obtain ⟨n27, hf28, hf29, hf30⟩ := hw
      have hf28c := hf28.2.2.1
      have hf28d := hf28.2.2.2
      refine lv_iconst (v := 1) hx hb dX12_readBracket_28 (by decide) ?_
      exact W.zret (v := 1) hx hb hr rfl (fun t ht hW => ⟨⟨1, (st25, sl26), rfl, ⟨hG, hL, Or.inl (⟨n27, n5, n6, n7, rfl, (show TS st25 n27 gb from ⟨by rw [hf28.1], by rw [hf28.2.1], by omega, by omega⟩), by omega, by show st25 0 43 = (nI n5); rw [hGst25.2 0 43 (by decide), hf10], by show st25 0 44 = (nI n6); rw [hGst25.2 0 44 (by decide), hf11], by show st25 0 45 = 8; rw [hGst25.2 0 45 (by decide), hf12], by show st25 0 46 = (nI n7); rw [hGst25.2 0 46 (by decide), hf13], by omega, by omega, by omega, by omega, by omega, (NKm.mg hGst25 (by decide) hf19)⟩)⟩, mB.of ht hP⟩, hS.F ht⟩) hS.2.2 dX12_readBracket_29
    · refine lv_if_ne (tgt := 24) hx hb dX12_readBracket_15 (by decide) (fun cc => absurd (by decide) cc) (fun _ => ?_)
      refine lv_aload_n hx hb dX12_readBracket_18 rfl (lv_at hl 0 rfl) ?_
      refine lv_iconst (v := 1) hx hb dX12_readBracket_19 (by decide) ?_
      refine va_calli (va_runV (As := [.int 1]) (rest := []) ⟨hx, hb, hml, hown, hts⟩ (m_bad l dC dI ar cy _ hN st2 sl3 1  hG.1) (cwV 1 hts gX12_readBracket_X12_bad rfl rfl rfl (by decide +kernel) ⟨Nat.le_of_ble_eq_true rfl, Nat.le_of_ble_eq_true rfl⟩) ⟨fun a U g mk q => ⟨q.1, mPre.blind q.2⟩, va_recv hK hP (ci := 11) (q0 := 0) rfl rfl, fun U hU hW => ⟨rfl, mPre.of hP hK hU hW⟩⟩ rfl rfl hl.1 rfl (lv_room (Nat.le_of_ble_eq_true rfl)) dX12_readBracket_20 ⟨Nat.le_of_ble_eq_true rfl, Nat.le_of_ble_eq_true rfl⟩) hS (fun q _ h => MA.le hS.1 q h) (MA.le hS.1) (fun r31 x t H locs ht hvm hw hB _ _ hS => ?_)
      have hP := mB.at ht hB
      clear hB ht hvm
      obtain ⟨st32, sl33⟩ := x
      obtain ⟨hG2, hL2, hw⟩ := hw
      have hL : LQ [7, 9] sl sl33 := hL.tr hL2 (by decide)
      clear hL2
      have hP : va_P (dC, dI) vwCl (mw ar cy st32 sl33) _ := hP
      have hG : MG [1, 2, 3, 6, 7, 13, 14, 15, 19, 20, 21, 22] st st32 := hG.tr hG2 (by decide)
      have hGst32 : MG [1, 2, 3, 4, 5, 6, 7, 8, 9, 10, 11, 12, 13, 14, 15, 16, 17, 19, 20, 21, 22] st2 st32 := hG2
      clear hG2
      obtain rfl := hw
      exact W.zret (v := 0) hx hb hr rfl (fun t ht hW => ⟨⟨0, (st32, sl33), rfl, ⟨hG, hL, Or.inr (⟨rfl, by show st32 0 45 = _; rw [hGst32.2 0 45 (by decide), hf12], (NKm.mg hGst32 (by decide) hf19)⟩)⟩, mB.of ht hP⟩, hS.F ht⟩) hS.2.2 dX12_readBracket_23
  · refine lv_if_ne (tgt := 9) hx hb dX12_readBracket_4 (by decide) (fun cc => absurd (by decide) cc) (fun _ => ?_)
    refine lv_iconst (v := 0) hx hb dX12_readBracket_7 (by decide) ?_
    exact W.zret (v := 0) hx hb hr rfl (fun t ht hW => ⟨⟨0, (st2, sl3), rfl, ⟨hG, hL, Or.inr (⟨rfl, by show st2 0 45 = _; rw [hf20], hf21⟩)⟩, mB.of ht hP⟩, hS.F ht⟩) hS.2.2 dX12_readBracket_8
set_option maxHeartbeats 4000000 in
set_option maxRecDepth 100000 in
theorem m_readNot_8 (l : Launch) (dC : Nat → ClassId) (dI : Nat → Nat → Nat) (ar : Nat → Nat) (cy : Nat → ClassId) (sz : Nat) (hN : MN ar) (st : Nat → Nat → Int32) (sl : Nat → Nat → Int64) (gn : Nat) (go : Nat) (ga gb : Nat) (hI : MI st) (hT : TS st ga gb) (h43 : st 0 43 = nI gn) (h44 : st 0 44 = nI go) (h45 : st 0 45 = 8) (hgn : gn ≤ 2 * go) (hgo : go ≤ 20) (hNK : NKm st) : Met l yX12_readNot wsX12_readNot ({ frames := 4, cells := 0, slots := 0, locals := 92 }) (va_Pc [.ref (ar 0)] (mPre dC dI ar cy sz st sl)) (va_Qi (fun (r : Int32) (x : MT) => MG [1, 2, 3, 6, 7, 13, 14, 15, 19, 20, 21, 22] st x.1 ∧ LQ [7, 9] sl x.2 ∧ ((∃ g : Nat, ∃ n1 : Nat, ∃ o1 : Nat, ∃ t1 : Nat, r = 1 ∧ TS x.1 g gb ∧ ga ≤ g ∧ x.1 0 43 = nI n1 ∧ x.1 0 44 = nI o1 ∧ x.1 0 45 = 8 ∧ x.1 0 46 = nI t1 ∧ t1 < n1 ∧ n1 + 2 * go ≤ gn + 2 * o1 ∧ go + 1 ≤ o1 ∧ o1 ≤ 20 ∧ gn ≤ n1 ∧ NKm x.1) ∨ (r = 0 ∧ x.1 0 45 = 8 ∧ NKm x.1))) (mB dC dI ar cy) (MA ar sz)) 0 0 (MA ar sz) := by
  refine Met.ofW (cc := cX12_readNot) (maxL := 1) (ret := (some .boolean)) (by decide) rfl ?_
  intro p e s m args below meth c s₁ B hml hv
  obtain ⟨rfl, hsz, hP, hK⟩ := hv
  have hx := B.exec
  have hb := B.bytes
  have hr := B.returns
  have hts := atoms_spec (ws := wsX12_readNot) B.pre
  have hown : s.vm.findClass RX12 = some m.cls := findClass_of_methodNamed B.named
  subst hsz
  have hS : va_S (MA ar s.heap.size) s.heap s.heap [] := va_S.rf
  have hG : MG [1, 2, 3, 6, 7, 13, 14, 15, 19, 20, 21, 22] st st := MG.rf hI
  have hl := lv_entry ([.ref (ar 0)]) (n := 1) (Nat.le_of_ble_eq_true rfl)
  rw [lg_entry_eq]
  generalize (lg_sl ([.ref (ar 0)]) ++ List.replicate (1 - (lg_sl ([.ref (ar 0)])).length) Slot.unset).toArray = ls at hl ⊢
  have hl : lv_has ls 1 [(0, .ref (ar 0))] := hl
  clear hI
  have hL : LQ [7, 9] sl sl := LQ.rf
  have hTc := hT.2.2.1
  have hTd := hT.2.2.2
  have hga : ga ≤ ga := Nat.le_refl ga
  refine lv_aload_n hx hb dX12_readNot_0 rfl (lv_at hl 0 rfl) ?_
  refine va_calli (va_runV (As := []) (rest := []) ⟨hx, hb, hml, hown, hts⟩ (m_readSaid_8 l dC dI ar cy _ hN st sl gn go ga gb  hG.1 ((⟨by rw [hT.1], by rw [hT.2.1], by omega, by omega⟩ : TS st ga gb)) (by rw [h43]) (by rw [h44]) (by rw [h45]) (by omega) (by omega) (hNK)) (cwV 0 hts gX12_readNot_X12_readSaid rfl rfl rfl (by decide +kernel) ⟨Nat.le_of_ble_eq_true rfl, Nat.le_of_ble_eq_true rfl⟩) ⟨fun a U g mk q => ⟨q.1, mPre.blind q.2⟩, va_recv hK hP (ci := 11) (q0 := 0) rfl rfl, fun U hU hW => ⟨rfl, mPre.of hP hK hU hW⟩⟩ rfl rfl hl.1 rfl (lv_room (Nat.le_of_ble_eq_true rfl)) dX12_readNot_1 ⟨Nat.le_of_ble_eq_true rfl, Nat.le_of_ble_eq_true rfl⟩) hS (fun q _ h => MA.le hS.1 q h) (MA.le hS.1) (fun r1 x t H locs ht hvm hw hB _ _ hS => ?_)
  have hP := mB.at ht hB
  clear hB ht hvm
  obtain ⟨st2, sl3⟩ := x
  obtain ⟨hG2, hL2, hw⟩ := hw
  have hL : LQ [7, 9] sl sl3 := hL.tr hL2 (by decide)
  clear hL2
  dsimp only at hw
  have hP : va_P (dC, dI) vwCl (mw ar cy st2 sl3) _ := hP
  have hG : MG [1, 2, 3, 6, 7, 13, 14, 15, 19, 20, 21, 22] st st2 := hG.tr hG2 (by decide)
  have hGst2 : MG [1, 2, 3, 6, 7, 13, 14, 15, 19, 20, 21, 22] st st2 := hG2
  clear hG2
  rcases hw with ⟨n4, n5, n6, n7, rfl, hf8, hf9, hf10, hf11, hf12, hf13, hf14, hf15, hf16, hf17, hf18, hf19⟩ | ⟨rfl, hf20, hf21⟩
  · have hf8c := hf8.2.2.1
    have hf8d := hf8.2.2.2
    refine lv_if_ne (tgt := 9) hx hb dX12_readNot_4 (by decide) (fun _ => ?_) (fun cc => absurd cc (by decide))
    refine lv_aload_n hx hb dX12_readNot_9 rfl (lv_at hl 0 rfl) ?_
    refine lv_aload_n hx hb dX12_readNot_10 rfl (lv_at hl 0 rfl) ?_
    refine lv_iconst (v := 1) hx hb dX12_readNot_11 (by decide) ?_
    refine lv_aload_n hx hb dX12_readNot_12 rfl (lv_at hl 0 rfl) ?_
    refine va_get (D := (dC, dI)) (ci := 11) (v := .int (st2 0 46)) (C := RX12) (T := TX12) (N := 47) hx hb hts ii_X12_readNot hown hK hP 0 rfl rfl 46 (by decide) (hts _ mm_X12_readNot_1) (fun _ hh => hh) rfl dX12_readNot_13 ?_
    refine zz_top (v := (nI n7)) (by show st2 0 46 = _; rw [hf13]) ?_
    refine lv_iconst (v := 0) hx hb dX12_readNot_16 (by decide) ?_
    refine lv_iconst (v := 0) hx hb dX12_readNot_17 (by decide) ?_
    refine va_calli (va_runV (As := [.int 1, .int (nI n7), .int 0, .int 0]) (rest := [.ref (ar 0)]) ⟨hx, hb, hml, hown, hts⟩ (m_saysOne1 l dC dI ar cy _ hN st2 sl3 n7 0 0 n5 (by omega) hG.1 (by rw [hf10]) (by omega) (hf19) (by omega)) (cwV 4 hts gX12_readNot_X12_saysOne rfl rfl rfl (by decide +kernel) ⟨Nat.le_of_ble_eq_true rfl, Nat.le_of_ble_eq_true rfl⟩) ⟨fun a U g mk q => ⟨q.1, mPre.blind q.2⟩, va_recv hK hP (ci := 11) (q0 := 0) rfl rfl, fun U hU hW => ⟨rfl, mPre.of hP hK hU hW⟩⟩ rfl rfl hl.1 rfl (lv_room (Nat.le_of_ble_eq_true rfl)) dX12_readNot_18 ⟨Nat.le_of_ble_eq_true rfl, Nat.le_of_ble_eq_true rfl⟩) hS (fun q _ h => MA.le hS.1 q h) (MA.le hS.1) (fun r22 x t H locs ht hvm hw hB _ _ hS => ?_)
    have hP := mB.at ht hB
    clear hB ht hvm
    obtain ⟨st23, sl24⟩ := x
    obtain ⟨hG2, hL2, hw⟩ := hw
    have hL : LQ [7, 9] sl sl24 := hL.tr hL2 (by decide)
    clear hL2
    dsimp only at hw
    have hP : va_P (dC, dI) vwCl (mw ar cy st23 sl24) _ := hP
    have hG : MG [1, 2, 3, 6, 7, 13, 14, 15, 19, 20, 21, 22] st st23 := hG.tr hG2 (by decide)
    have hGst23 : MG [1, 2, 3, 4, 5, 6, 7, 10, 11, 12, 13, 14, 15, 16, 17, 19, 20, 21, 22, 23] st2 st23 := hG2
    clear hG2
    obtain ⟨n25, rfl, hf26, hf27, hf28⟩ := hw
    refine va_put (D := (dC, dI)) (ci := 11) (v := .int (nI n25)) (ty := .int) (C := RX12) (T := TX12) (N := 47) hx hb hts ii_X12_readNot tyX12 tyX12_ok nmX12 hown hK hP (mD hN _ _ _ _) hS 0 rfl rfl 46 (by decide) (hts _ mm_X12_readNot_1) (fun _ hh => hh) rfl (by decide +kernel) rfl rfl (Nat.le_of_ble_eq_true rfl) dX12_readNot_21 (fun H locs hP _ hS => ?_)
    have hP : va_P (dC, dI) vwCl (mw ar cy (up2 st23 0 46 (nI n25)) sl24) H := hP
    obtain ⟨st29, est29⟩ : ∃ y, y = up2 st23 0 46 (nI n25) := ⟨_, rfl⟩
    have hG : MG [1, 2, 3, 6, 7, 13, 14, 15, 19, 20, 21, 22] st st29 := by rw [est29]; exact hG.up (rn (n := n25) (by decide : mr 0 46 = 60) (by omega)) (pn (by decide : pcl 0 46 = 12) (by decide))
    rw [← est29] at hP
    refine lv_iconst (v := 1) hx hb dX12_readNot_24 (by decide) ?_
    exact W.zret (v := 1) hx hb hr rfl (fun t ht hW => ⟨⟨1, (st29, sl24), rfl, ⟨hG, hL, Or.inl (⟨n4, (n5 + 1), n6, n25, rfl, (show TS st29 n4 gb from ⟨by rw [est29, up2_ne (r := 0) (k := 46) (a := 0) (j := 5) _ _ (by omega), hGst23.2 0 5 (by decide), hf8.1], by rw [est29, up2_ne (r := 0) (k := 46) (a := 0) (j := 3) _ _ (by omega), hGst23.2 0 3 (by decide), hf8.2.1], by omega, by omega⟩), by omega, by show st29 0 43 = (nI (n5 + 1)); rw [est29, up2_ne (r := 0) (k := 46) (a := 0) (j := 43) _ _ (by omega), hf27], by show st29 0 44 = (nI n6); rw [est29, up2_ne (r := 0) (k := 46) (a := 0) (j := 44) _ _ (by omega), hGst23.2 0 44 (by decide), hf11], by show st29 0 45 = 8; rw [est29, up2_ne (r := 0) (k := 46) (a := 0) (j := 45) _ _ (by omega), hGst23.2 0 45 (by decide), hf12], by show st29 0 46 = (nI n25); rw [est29, up2_same], by omega, by omega, by omega, by omega, by omega, (show NKm st29 by rw [est29]; exact (show NKm st23 from hf28))⟩)⟩, mB.of ht hP⟩, hS.F ht⟩) hS.2.2 dX12_readNot_25
  · refine lv_if_ne (tgt := 9) hx hb dX12_readNot_4 (by decide) (fun cc => absurd (by decide) cc) (fun _ => ?_)
    refine lv_iconst (v := 0) hx hb dX12_readNot_7 (by decide) ?_
    exact W.zret (v := 0) hx hb hr rfl (fun t ht hW => ⟨⟨0, (st2, sl3), rfl, ⟨hG, hL, Or.inr (⟨rfl, by show st2 0 45 = _; rw [hf20], hf21⟩)⟩, mB.of ht hP⟩, hS.F ht⟩) hS.2.2 dX12_readNot_8
