set_option maxHeartbeats 4000000 in
set_option maxRecDepth 100000 in
theorem m_hoursInN (l : Launch) (dC : Nat → ClassId) (dI : Nat → Nat → Nat) (ar : Nat → Nat) (cy : Nat → ClassId) (sz : Nat) (hN : MN ar) (st : Nat → Nat → Int32) (sl : Nat → Nat → Int64) (va : Nat) (vb : Nat) (hva : va < 24) (hvb : vb < 24) (hI : MI st) (hab : va ≤ vb) : Met l yX12_hoursIn wsX12_hoursIn ({ frames := 0, cells := 0, slots := 0, locals := 0 }) (va_Pc [.int (nI va), .int (nI vb)] (mPre dC dI ar cy sz st sl)) (va_Qi (fun (r : Int32) (x : MT) => x = (st, sl) ∧ (∃ n : Nat, r = nI n ∧ n < 2 ^ 31)) (mB dC dI ar cy) (MA ar sz)) 0 0 (MA ar sz) := by
  refine Met.ofW (cc := cX12_hoursIn) (maxL := 2) (ret := (some .int)) (by decide) rfl ?_
  intro p e s m args below meth c s₁ B hml hv
  obtain ⟨rfl, hsz, hP, hK⟩ := hv
  have hx := B.exec
  have hb := B.bytes
  have hr := B.returns
  have hts := atoms_spec (ws := wsX12_hoursIn) B.pre
  have hown : s.vm.findClass RX12 = some m.cls := findClass_of_methodNamed B.named
  subst hsz
  have hS : va_S (MA ar s.heap.size) s.heap s.heap [] := va_S.rf
  have hG : MG [1, 2, 3, 4, 5, 6, 7, 8, 9, 10, 11, 12, 13, 14, 15, 16, 17, 19, 20, 21, 22, 23] st st := MG.rf hI
  have hl := lv_entry ([.int (nI va), .int (nI vb)]) (n := 2) (Nat.le_of_ble_eq_true rfl)
  rw [lg_entry_eq]
  generalize (lg_sl ([.int (nI va), .int (nI vb)]) ++ List.replicate (2 - (lg_sl ([.int (nI va), .int (nI vb)])).length) Slot.unset).toArray = ls at hl ⊢
  have hl : lv_has ls 2 [(0, .int (nI va)), (1, .int (nI vb))] := hl
  clear hI
  refine lv_iconst (v := 1) hx hb dX12_hoursIn_0 (by decide) ?_
  refine lv_iload_n hx hb dX12_hoursIn_1 rfl (lv_at hl 1 rfl) ?_
  refine lv_iconst (v := 1) hx hb dX12_hoursIn_2 (by decide) ?_
  refine lv_iadd hx hb dX12_hoursIn_3 ?_
  refine zz_top (v := nI (vb + 1)) (nI_add vb 1) ?_
  refine lv_ishl hx hb dX12_hoursIn_4 ?_
  refine lv_topi (fun z1 ez1 => ?_)
  refine lv_iconst (v := 1) hx hb dX12_hoursIn_5 (by decide) ?_
  refine lv_iload_n hx hb dX12_hoursIn_6 rfl (lv_at hl 0 rfl) ?_
  refine lv_ishl hx hb dX12_hoursIn_7 ?_
  refine lv_topi (fun z2 ez2 => ?_)
  refine lv_isub hx hb dX12_hoursIn_8 ?_
  refine lv_topi (fun z3 ez3 => ?_)
  have ee : z3 = nI (2 ^ (vb + 1) - 2 ^ va) := by subst_eqs; exact hours_in va hva vb hvb hab
  have hh : 2 ^ (vb + 1) ≤ 2 ^ 24 := Nat.pow_le_pow_right (by decide) (by omega)
  exact W.iret (v := z3) hx hb hr (fun t ht hW => ⟨⟨z3, (st, sl), rfl, ⟨rfl, ⟨_, ee, Nat.lt_of_le_of_lt (Nat.sub_le _ _) (Nat.lt_of_le_of_lt hh (by decide))⟩⟩, mB.of ht hP⟩, hS.F ht⟩) hS.2.2 dX12_hoursIn_9
set_option maxHeartbeats 4000000 in
set_option maxRecDepth 100000 in
theorem m_snap (l : Launch) (dC : Nat → ClassId) (dI : Nat → Nat → Nat) (ar : Nat → Nat) (cy : Nat → ClassId) (sz : Nat) (hN : MN ar) (st : Nat → Nat → Int32) (sl : Nat → Nat → Int64) (hI : MI st) : Met l yX12_snap wsX12_snap ({ frames := 0, cells := 0, slots := 0, locals := 0 }) (va_Pc [.ref (ar 0)] (mPre dC dI ar cy sz st sl)) (va_Qv (fun (x : MT) => MG [1, 2, 3, 4, 5, 6, 7, 8, 9, 10, 11, 12, 13, 14, 15, 16, 17, 19, 20, 21, 22, 23] st x.1 ∧ LQ [7, 9] sl x.2 ∧ (True)) (mB dC dI ar cy) (MA ar sz)) 0 0 (MA ar sz) := by
  refine Met.ofW (cc := cX12_snap) (maxL := 2) (ret := none) (by decide) rfl ?_
  intro p e s m args below meth c s₁ B hml hv
  obtain ⟨rfl, hsz, hP, hK⟩ := hv
  have hx := B.exec
  have hb := B.bytes
  have hr := B.returns
  have hts := atoms_spec (ws := wsX12_snap) B.pre
  have hown : s.vm.findClass RX12 = some m.cls := findClass_of_methodNamed B.named
  subst hsz
  have hS : va_S (MA ar s.heap.size) s.heap s.heap [] := va_S.rf
  have hG : MG [1, 2, 3, 4, 5, 6, 7, 8, 9, 10, 11, 12, 13, 14, 15, 16, 17, 19, 20, 21, 22, 23] st st := MG.rf hI
  have hl := lv_entry ([.ref (ar 0)]) (n := 2) (Nat.le_of_ble_eq_true rfl)
  rw [lg_entry_eq]
  generalize (lg_sl ([.ref (ar 0)]) ++ List.replicate (2 - (lg_sl ([.ref (ar 0)])).length) Slot.unset).toArray = ls at hl ⊢
  have hl : lv_has ls 2 [(0, .ref (ar 0))] := hl
  clear hI
  have hL : LQ [7, 9] sl sl := LQ.rf
  refine lv_aload_n hx hb dX12_snap_0 rfl (lv_at hl 0 rfl) ?_
  refine va_get (D := (dC, dI)) (ci := 11) (v := .int (st 0 23)) (C := RX12) (T := TX12) (N := 47) hx hb hts ii_X12_snap hown hK hP 0 rfl rfl 23 (by decide) (hts _ mm_X12_snap_1) (fun _ hh => hh) rfl dX12_snap_1 ?_
  obtain ⟨n1, hn1, en1⟩ := hG.1.at (r := 0) (k := 23) (by decide : mr 0 23 = 9) (by decide)
  refine zz_top (v := nI n1) (by exact en1) ?_
  refine lv_bipush (v := 8) hx hb dX12_snap_4 (by decide) ?_
  refine lv_icmp_ne (tgt := 49) hx hb dX12_snap_6 (by decide) (fun c1 => ?_) (fun c1 => ?_)
  · have c1 : ¬ n1 = 8 := fun hh => c1 ((nI_eq (a := n1) (b := 8) (by omega) (by omega)).mpr hh)
    refine lv_iconst (v := 0) hx hb dX12_snap_49 (by decide) ?_
    refine lv_istore_n (lv' := [(1, .int 0), (0, .ref (ar 0))]) hx hb dX12_snap_50 rfl hl (by decide) rfl (fun ls hl => ?_)
    refine zz_wf (fun n stk H locs ls => ∃ k2 : Nat, ∃ st3 : Nat → Nat → Int32, ∃ sl4 : Nat → Nat → Int64, n = 71 - k2 ∧ 0 ≤ k2 ∧ k2 < 71 ∧ va_P (dC, dI) vwCl (mw ar cy st3 sl4) H ∧ MG [1, 2, 3, 4, 5, 6, 7, 8, 9, 10, 11, 12, 13, 14, 15, 16, 17, 19, 20, 21, 22, 23] st st3 ∧ MG [1, 2, 3, 4, 5, 6, 7, 8, 9, 10, 11, 12, 13, 14, 15, 16, 17, 19, 20, 21, 22, 23, 18] st st3 ∧ LQ [7, 9] sl sl4 ∧ va_S (MA ar s.heap.size) s.heap H locs ∧ lv_has ls 2 [(1, .int (nI k2)), (0, .ref (ar 0))] ∧ stk = []) ?_ (71 - 0) _ _ _ _ ⟨0, st, sl, rfl, by omega, by omega, hP, hG, MG.rf hG.1, hL, hS, lv_sub hl [0, 1] rfl, rfl⟩
    rintro nn stk H locs ls ⟨k2, st3, sl4, hm7, hv6_0, hv7_1, hP, hG, hG5, hL, hS, hl, rfl⟩ ih8
    refine lv_iload_n hx hb dX12_snap_51 rfl (lv_at hl 0 rfl) ?_
    refine lv_bipush (v := 70) hx hb dX12_snap_52 (by decide) ?_
    refine lv_icmp_ge (tgt := 86) hx hb dX12_snap_54 (by decide) (fun c2 => ?_) (fun c2 => ?_)
    · have c2 : 70 ≤ k2 := (nI_leI (a := 70) (b := k2) (by omega) (by omega)).mp c2
      refine lv_aload_n hx hb dX12_snap_86 rfl (lv_at hl 1 rfl) ?_
      refine lv_dup hx hb dX12_snap_87 rfl ?_
      refine va_get (D := (dC, dI)) (ci := 11) (v := .int (st3 0 23)) (C := RX12) (T := TX12) (N := 47) hx hb hts ii_X12_snap hown hK hP 0 rfl rfl 23 (by decide) (hts _ mm_X12_snap_1) (fun _ hh => hh) rfl dX12_snap_88 ?_
      refine zz_top (v := (nI n1)) (by show st3 0 23 = _; rw [hG5.2 0 23 (by decide), en1]) ?_
      refine lv_iconst (v := 1) hx hb dX12_snap_91 (by decide) ?_
      refine lv_iadd hx hb dX12_snap_92 ?_
      refine zz_top (v := nI (n1 + 1)) (nI_add n1 1) ?_
      refine va_put (D := (dC, dI)) (ci := 11) (v := .int (nI (n1 + 1))) (ty := .int) (C := RX12) (T := TX12) (N := 47) hx hb hts ii_X12_snap tyX12 tyX12_ok nmX12 hown hK hP (mD hN _ _ _ _) hS 0 rfl rfl 23 (by decide) (hts _ mm_X12_snap_1) (fun _ hh => hh) rfl (by decide +kernel) rfl rfl (Nat.le_of_ble_eq_true rfl) dX12_snap_93 (fun H locs hP _ hS => ?_)
      have hP : va_P (dC, dI) vwCl (mw ar cy (up2 st3 0 23 (nI (n1 + 1))) sl4) H := hP
      obtain ⟨st9, est9⟩ : ∃ y, y = up2 st3 0 23 (nI (n1 + 1)) := ⟨_, rfl⟩
      have hG : MG [1, 2, 3, 4, 5, 6, 7, 8, 9, 10, 11, 12, 13, 14, 15, 16, 17, 19, 20, 21, 22, 23] st st9 := by rw [est9]; exact hG.up (rn (n := (n1 + 1)) (by decide : mr 0 23 = 9) (by omega)) (pn (by decide : pcl 0 23 = 18) (by decide))
      rw [← est9] at hP
      exact W.vret hx hb hr (fun t ht hW => ⟨⟨(st9, sl4), rfl, ⟨hG, hL, trivial⟩, mB.of ht hP⟩, hS.F ht⟩) hS.2.2 dX12_snap_96
    · have c2 : ¬ 70 ≤ k2 := fun hh => c2 ((nI_leI (a := 70) (b := k2) (by omega) (by omega)).mpr hh)
      refine lv_aload_n hx hb dX12_snap_57 rfl (lv_at hl 1 rfl) ?_
      refine va_get (D := (dC, dI)) (ci := 11) (v := .ref (ar 5)) (C := RX12) (T := TX12) (N := 47) hx hb hts ii_X12_snap hown hK hP 0 rfl rfl 17 (by decide) (hts _ mm_X12_snap_2) (fun _ hh => hh) rfl dX12_snap_58 ?_
      refine lv_bipush (v := 70) hx hb dX12_snap_61 (by decide) ?_
      refine lv_aload_n hx hb dX12_snap_63 rfl (lv_at hl 1 rfl) ?_
      refine va_get (D := (dC, dI)) (ci := 11) (v := .int (st3 0 23)) (C := RX12) (T := TX12) (N := 47) hx hb hts ii_X12_snap hown hK hP 0 rfl rfl 23 (by decide) (hts _ mm_X12_snap_1) (fun _ hh => hh) rfl dX12_snap_64 ?_
      refine zz_top (v := (nI n1)) (by show st3 0 23 = _; rw [hG5.2 0 23 (by decide), en1]) ?_
      refine lv_imul hx hb dX12_snap_67 ?_
      refine zz_top (v := nI (70 * n1)) (nI_mul 70 n1) ?_
      refine lv_iload_n hx hb dX12_snap_68 rfl (lv_at hl 0 rfl) ?_
      refine lv_iadd hx hb dX12_snap_69 ?_
      refine zz_top (v := nI ((70 * n1) + k2)) (nI_add (70 * n1) k2) ?_
      refine lv_aload_n hx hb dX12_snap_70 rfl (lv_at hl 1 rfl) ?_
      refine va_get (D := (dC, dI)) (ci := 11) (v := .ref (ar 2)) (C := RX12) (T := TX12) (N := 47) hx hb hts ii_X12_snap hown hK hP 0 rfl rfl 14 (by decide) (hts _ mm_X12_snap_3) (fun _ hh => hh) rfl dX12_snap_71 ?_
      refine lv_bipush (v := 61) hx hb dX12_snap_74 (by decide) ?_
      refine lv_iload_n hx hb dX12_snap_76 rfl (lv_at hl 0 rfl) ?_
      refine lv_iadd hx hb dX12_snap_77 ?_
      refine zz_top (v := nI (61 + k2)) (nI_add 61 k2) ?_
      refine va_iald hx hb hK hP 2 1 rfl rfl (i := (nI (61 + k2))) (vp_in_nI (by omega) (by decide)) dX12_snap_78 ?_
      refine zz_top (v := st3 2 (61 + k2)) (by rw [nI_clamp (by omega)]) ?_
      have hIst3 := hG.1
      refine va_iast hx hb hK hP (mD hN _ _ _ _) hS 5 4 rfl rfl (i := (nI ((70 * n1) + k2))) (vp_in_nI (by omega) (by decide)) dX12_snap_79 (fun H locs hP _ hS => ?_)
      rw [nI_clamp (by omega)] at hP
      have hP : va_P (dC, dI) vwCl (mw ar cy (up2 st3 5 ((70 * n1) + k2) (st3 2 (61 + k2))) sl4) H := hP
      obtain ⟨st10, est10⟩ : ∃ y, y = up2 st3 5 ((70 * n1) + k2) (st3 2 (61 + k2)) := ⟨_, rfl⟩
      have hG : MG [1, 2, 3, 4, 5, 6, 7, 8, 9, 10, 11, 12, 13, 14, 15, 16, 17, 19, 20, 21, 22, 23] st st10 := by rw [est10]; exact hG.up (rc hIst3 (mr5 _ _ (by omega))) (pn (pcl_5_0_560 ((70 * n1) + k2) (by omega) (by omega)) (by decide))
      have hG11 : MG [1, 2, 3, 4, 5, 6, 7, 8, 9, 10, 11, 12, 13, 14, 15, 16, 17, 19, 20, 21, 22, 23, 18] st st10 := by rw [est10]; exact hG5.up (rc hIst3 (mr5 _ _ (by omega))) (pn (pcl_5_0_560 ((70 * n1) + k2) (by omega) (by omega)) (by decide))
      rw [← est10] at hP
      refine lv_iinc (v := (nI (k2 + 1))) (lv' := [(1, .int (nI (k2 + 1))), (0, .ref (ar 0))]) hx hb dX12_snap_80 hl (k := 0) rfl (nI_add k2 1) (by decide) rfl (fun ls hl => ?_)
      refine lv_goto (tgt := 51) hx hb dX12_snap_83 (by decide) ?_
      exact ih8 (71 - (k2 + 1)) _ _ _ _ (by omega) ⟨(k2 + 1), st10, sl4, rfl, by omega, by omega, hP, hG, hG11, hL, hS, lv_sub hl [0, 1] rfl, rfl⟩
  · have c1 : n1 = 8 := (nI_eq (a := n1) (b := 8) (by omega) (by omega)).mp c1
    refine lv_iconst (v := 0) hx hb dX12_snap_9 (by decide) ?_
    refine lv_istore_n (lv' := [(1, .int 0), (0, .ref (ar 0))]) hx hb dX12_snap_10 rfl hl (by decide) rfl (fun ls hl => ?_)
    refine zz_wf (fun n stk H locs ls => ∃ k12 : Nat, ∃ st13 : Nat → Nat → Int32, ∃ sl14 : Nat → Nat → Int64, n = 491 - k12 ∧ 0 ≤ k12 ∧ k12 < 491 ∧ va_P (dC, dI) vwCl (mw ar cy st13 sl14) H ∧ MG [1, 2, 3, 4, 5, 6, 7, 8, 9, 10, 11, 12, 13, 14, 15, 16, 17, 19, 20, 21, 22, 23] st st13 ∧ MG [1, 2, 3, 4, 5, 6, 7, 8, 9, 10, 11, 12, 13, 14, 15, 16, 17, 19, 20, 21, 22, 23, 18] st st13 ∧ LQ [7, 9] sl sl14 ∧ va_S (MA ar s.heap.size) s.heap H locs ∧ lv_has ls 2 [(1, .int (nI k12)), (0, .ref (ar 0))] ∧ stk = []) ?_ (491 - 0) _ _ _ _ ⟨0, st, sl, rfl, by omega, by omega, hP, hG, MG.rf hG.1, hL, hS, lv_sub hl [0, 1] rfl, rfl⟩
    rintro nn stk H locs ls ⟨k12, st13, sl14, hm17, hv16_0, hv17_1, hP, hG, hG15, hL, hS, hl, rfl⟩ ih18
    refine lv_iload_n hx hb dX12_snap_11 rfl (lv_at hl 0 rfl) ?_
    refine lv_sipush (v := 490) hx hb dX12_snap_12 (by decide) ?_
    refine lv_icmp_ge (tgt := 39) hx hb dX12_snap_15 (by decide) (fun c3 => ?_) (fun c3 => ?_)
    · have c3 : 490 ≤ k12 := (nI_leI (a := 490) (b := k12) (by omega) (by omega)).mp c3
      refine lv_aload_n hx hb dX12_snap_39 rfl (lv_at hl 1 rfl) ?_
      refine lv_dup hx hb dX12_snap_40 rfl ?_
      refine va_get (D := (dC, dI)) (ci := 11) (v := .int (st13 0 23)) (C := RX12) (T := TX12) (N := 47) hx hb hts ii_X12_snap hown hK hP 0 rfl rfl 23 (by decide) (hts _ mm_X12_snap_1) (fun _ hh => hh) rfl dX12_snap_41 ?_
      refine zz_top (v := (nI n1)) (by show st13 0 23 = _; rw [hG15.2 0 23 (by decide), en1]) ?_
      refine lv_iconst (v := 1) hx hb dX12_snap_44 (by decide) ?_
      refine lv_isub hx hb dX12_snap_45 ?_
      refine zz_top (v := nI (n1 - 1)) (nI_subN (a := n1) (b := 1) (by omega) (by omega)) ?_
      refine va_put (D := (dC, dI)) (ci := 11) (v := .int (nI (n1 - 1))) (ty := .int) (C := RX12) (T := TX12) (N := 47) hx hb hts ii_X12_snap tyX12 tyX12_ok nmX12 hown hK hP (mD hN _ _ _ _) hS 0 rfl rfl 23 (by decide) (hts _ mm_X12_snap_1) (fun _ hh => hh) rfl (by decide +kernel) rfl rfl (Nat.le_of_ble_eq_true rfl) dX12_snap_46 (fun H locs hP _ hS => ?_)
      have hP : va_P (dC, dI) vwCl (mw ar cy (up2 st13 0 23 (nI (n1 - 1))) sl14) H := hP
      obtain ⟨st19, est19⟩ : ∃ y, y = up2 st13 0 23 (nI (n1 - 1)) := ⟨_, rfl⟩
      have hG : MG [1, 2, 3, 4, 5, 6, 7, 8, 9, 10, 11, 12, 13, 14, 15, 16, 17, 19, 20, 21, 22, 23] st st19 := by rw [est19]; exact hG.up (rn (n := (n1 - 1)) (by decide : mr 0 23 = 9) (by omega)) (pn (by decide : pcl 0 23 = 18) (by decide))
      rw [← est19] at hP
      refine lv_iconst (v := 0) hx hb dX12_snap_49 (by decide) ?_
      refine lv_istore_n (lv' := [(1, .int 0), (0, .ref (ar 0))]) hx hb dX12_snap_50 rfl hl (by decide) rfl (fun ls hl => ?_)
      refine zz_wf (fun n stk H locs ls => ∃ k20 : Nat, ∃ st21 : Nat → Nat → Int32, ∃ sl22 : Nat → Nat → Int64, n = 71 - k20 ∧ 0 ≤ k20 ∧ k20 < 71 ∧ va_P (dC, dI) vwCl (mw ar cy st21 sl22) H ∧ MG [1, 2, 3, 4, 5, 6, 7, 8, 9, 10, 11, 12, 13, 14, 15, 16, 17, 19, 20, 21, 22, 23] st st21 ∧ MG [1, 2, 3, 4, 5, 6, 7, 8, 9, 10, 11, 12, 13, 14, 15, 16, 17, 19, 20, 21, 22, 23, 18] st19 st21 ∧ LQ [7, 9] sl sl22 ∧ va_S (MA ar s.heap.size) s.heap H locs ∧ lv_has ls 2 [(1, .int (nI k20)), (0, .ref (ar 0))] ∧ stk = []) ?_ (71 - 0) _ _ _ _ ⟨0, st19, sl14, rfl, by omega, by omega, hP, hG, MG.rf hG.1, hL, hS, lv_sub hl [0, 1] rfl, rfl⟩
      rintro nn stk H locs ls ⟨k20, st21, sl22, hm25, hv24_0, hv25_1, hP, hG, hG23, hL, hS, hl, rfl⟩ ih26
      refine lv_iload_n hx hb dX12_snap_51 rfl (lv_at hl 0 rfl) ?_
      refine lv_bipush (v := 70) hx hb dX12_snap_52 (by decide) ?_
      refine lv_icmp_ge (tgt := 86) hx hb dX12_snap_54 (by decide) (fun c4 => ?_) (fun c4 => ?_)
      · have c4 : 70 ≤ k20 := (nI_leI (a := 70) (b := k20) (by omega) (by omega)).mp c4
        refine lv_aload_n hx hb dX12_snap_86 rfl (lv_at hl 1 rfl) ?_
        refine lv_dup hx hb dX12_snap_87 rfl ?_
        refine va_get (D := (dC, dI)) (ci := 11) (v := .int (st21 0 23)) (C := RX12) (T := TX12) (N := 47) hx hb hts ii_X12_snap hown hK hP 0 rfl rfl 23 (by decide) (hts _ mm_X12_snap_1) (fun _ hh => hh) rfl dX12_snap_88 ?_
        refine zz_top (v := (nI (n1 - 1))) (by show st21 0 23 = _; rw [hG23.2 0 23 (by decide), est19, up2_same]) ?_
        refine lv_iconst (v := 1) hx hb dX12_snap_91 (by decide) ?_
        refine lv_iadd hx hb dX12_snap_92 ?_
        refine zz_top (v := nI ((n1 - 1) + 1)) (nI_add (n1 - 1) 1) ?_
        refine va_put (D := (dC, dI)) (ci := 11) (v := .int (nI ((n1 - 1) + 1))) (ty := .int) (C := RX12) (T := TX12) (N := 47) hx hb hts ii_X12_snap tyX12 tyX12_ok nmX12 hown hK hP (mD hN _ _ _ _) hS 0 rfl rfl 23 (by decide) (hts _ mm_X12_snap_1) (fun _ hh => hh) rfl (by decide +kernel) rfl rfl (Nat.le_of_ble_eq_true rfl) dX12_snap_93 (fun H locs hP _ hS => ?_)
        have hP : va_P (dC, dI) vwCl (mw ar cy (up2 st21 0 23 (nI ((n1 - 1) + 1))) sl22) H := hP
        obtain ⟨st27, est27⟩ : ∃ y, y = up2 st21 0 23 (nI ((n1 - 1) + 1)) := ⟨_, rfl⟩
        have hG : MG [1, 2, 3, 4, 5, 6, 7, 8, 9, 10, 11, 12, 13, 14, 15, 16, 17, 19, 20, 21, 22, 23] st st27 := by rw [est27]; exact hG.up (rn (n := ((n1 - 1) + 1)) (by decide : mr 0 23 = 9) (by omega)) (pn (by decide : pcl 0 23 = 18) (by decide))
        rw [← est27] at hP
        exact W.vret hx hb hr (fun t ht hW => ⟨⟨(st27, sl22), rfl, ⟨hG, hL, trivial⟩, mB.of ht hP⟩, hS.F ht⟩) hS.2.2 dX12_snap_96
      · have c4 : ¬ 70 ≤ k20 := fun hh => c4 ((nI_leI (a := 70) (b := k20) (by omega) (by omega)).mpr hh)
        refine lv_aload_n hx hb dX12_snap_57 rfl (lv_at hl 1 rfl) ?_
        refine va_get (D := (dC, dI)) (ci := 11) (v := .ref (ar 5)) (C := RX12) (T := TX12) (N := 47) hx hb hts ii_X12_snap hown hK hP 0 rfl rfl 17 (by decide) (hts _ mm_X12_snap_2) (fun _ hh => hh) rfl dX12_snap_58 ?_
        refine lv_bipush (v := 70) hx hb dX12_snap_61 (by decide) ?_
        refine lv_aload_n hx hb dX12_snap_63 rfl (lv_at hl 1 rfl) ?_
        refine va_get (D := (dC, dI)) (ci := 11) (v := .int (st21 0 23)) (C := RX12) (T := TX12) (N := 47) hx hb hts ii_X12_snap hown hK hP 0 rfl rfl 23 (by decide) (hts _ mm_X12_snap_1) (fun _ hh => hh) rfl dX12_snap_64 ?_
        refine zz_top (v := (nI (n1 - 1))) (by show st21 0 23 = _; rw [hG23.2 0 23 (by decide), est19, up2_same]) ?_
        refine lv_imul hx hb dX12_snap_67 ?_
        refine zz_top (v := nI (70 * (n1 - 1))) (nI_mul 70 (n1 - 1)) ?_
        refine lv_iload_n hx hb dX12_snap_68 rfl (lv_at hl 0 rfl) ?_
        refine lv_iadd hx hb dX12_snap_69 ?_
        refine zz_top (v := nI ((70 * (n1 - 1)) + k20)) (nI_add (70 * (n1 - 1)) k20) ?_
        refine lv_aload_n hx hb dX12_snap_70 rfl (lv_at hl 1 rfl) ?_
        refine va_get (D := (dC, dI)) (ci := 11) (v := .ref (ar 2)) (C := RX12) (T := TX12) (N := 47) hx hb hts ii_X12_snap hown hK hP 0 rfl rfl 14 (by decide) (hts _ mm_X12_snap_3) (fun _ hh => hh) rfl dX12_snap_71 ?_
        refine lv_bipush (v := 61) hx hb dX12_snap_74 (by decide) ?_
        refine lv_iload_n hx hb dX12_snap_76 rfl (lv_at hl 0 rfl) ?_
        refine lv_iadd hx hb dX12_snap_77 ?_
        refine zz_top (v := nI (61 + k20)) (nI_add 61 k20) ?_
        refine va_iald hx hb hK hP 2 1 rfl rfl (i := (nI (61 + k20))) (vp_in_nI (by omega) (by decide)) dX12_snap_78 ?_
        refine zz_top (v := st21 2 (61 + k20)) (by rw [nI_clamp (by omega)]) ?_
        have hIst21 := hG.1
        refine va_iast hx hb hK hP (mD hN _ _ _ _) hS 5 4 rfl rfl (i := (nI ((70 * (n1 - 1)) + k20))) (vp_in_nI (by omega) (by decide)) dX12_snap_79 (fun H locs hP _ hS => ?_)
        rw [nI_clamp (by omega)] at hP
        have hP : va_P (dC, dI) vwCl (mw ar cy (up2 st21 5 ((70 * (n1 - 1)) + k20) (st21 2 (61 + k20))) sl22) H := hP
        obtain ⟨st28, est28⟩ : ∃ y, y = up2 st21 5 ((70 * (n1 - 1)) + k20) (st21 2 (61 + k20)) := ⟨_, rfl⟩
        have hG : MG [1, 2, 3, 4, 5, 6, 7, 8, 9, 10, 11, 12, 13, 14, 15, 16, 17, 19, 20, 21, 22, 23] st st28 := by rw [est28]; exact hG.up (rc hIst21 (mr5 _ _ (by omega))) (pn (pcl_5_490_560 ((70 * (n1 - 1)) + k20) (by omega) (by omega)) (by decide))
        have hG29 : MG [1, 2, 3, 4, 5, 6, 7, 8, 9, 10, 11, 12, 13, 14, 15, 16, 17, 19, 20, 21, 22, 23, 18] st19 st28 := by rw [est28]; exact hG23.up (rc hIst21 (mr5 _ _ (by omega))) (pn (pcl_5_490_560 ((70 * (n1 - 1)) + k20) (by omega) (by omega)) (by decide))
        rw [← est28] at hP
        refine lv_iinc (v := (nI (k20 + 1))) (lv' := [(1, .int (nI (k20 + 1))), (0, .ref (ar 0))]) hx hb dX12_snap_80 hl (k := 0) rfl (nI_add k20 1) (by decide) rfl (fun ls hl => ?_)
        refine lv_goto (tgt := 51) hx hb dX12_snap_83 (by decide) ?_
        exact ih26 (71 - (k20 + 1)) _ _ _ _ (by omega) ⟨(k20 + 1), st28, sl22, rfl, by omega, by omega, hP, hG, hG29, hL, hS, lv_sub hl [0, 1] rfl, rfl⟩
    · have c3 : ¬ 490 ≤ k12 := fun hh => c3 ((nI_leI (a := 490) (b := k12) (by omega) (by omega)).mpr hh)
      refine lv_aload_n hx hb dX12_snap_18 rfl (lv_at hl 1 rfl) ?_
      refine va_get (D := (dC, dI)) (ci := 11) (v := .ref (ar 5)) (C := RX12) (T := TX12) (N := 47) hx hb hts ii_X12_snap hown hK hP 0 rfl rfl 17 (by decide) (hts _ mm_X12_snap_2) (fun _ hh => hh) rfl dX12_snap_19 ?_
      refine lv_iload_n hx hb dX12_snap_22 rfl (lv_at hl 0 rfl) ?_
      refine lv_aload_n hx hb dX12_snap_23 rfl (lv_at hl 1 rfl) ?_
      refine va_get (D := (dC, dI)) (ci := 11) (v := .ref (ar 5)) (C := RX12) (T := TX12) (N := 47) hx hb hts ii_X12_snap hown hK hP 0 rfl rfl 17 (by decide) (hts _ mm_X12_snap_2) (fun _ hh => hh) rfl dX12_snap_24 ?_
      refine lv_iload_n hx hb dX12_snap_27 rfl (lv_at hl 0 rfl) ?_
      refine lv_bipush (v := 70) hx hb dX12_snap_28 (by decide) ?_
      refine lv_iadd hx hb dX12_snap_30 ?_
      refine zz_top (v := nI (k12 + 70)) (nI_add k12 70) ?_
      refine va_iald hx hb hK hP 5 4 rfl rfl (i := (nI (k12 + 70))) (vp_in_nI (by omega) (by decide)) dX12_snap_31 ?_
      refine zz_top (v := st13 5 (k12 + 70)) (by rw [nI_clamp (by omega)]) ?_
      have hIst13 := hG.1
      refine va_iast hx hb hK hP (mD hN _ _ _ _) hS 5 4 rfl rfl (i := (nI k12)) (vp_in_nI (by omega) (by decide)) dX12_snap_32 (fun H locs hP _ hS => ?_)
      rw [nI_clamp (by omega)] at hP
      have hP : va_P (dC, dI) vwCl (mw ar cy (up2 st13 5 k12 (st13 5 (k12 + 70))) sl14) H := hP
      obtain ⟨st30, est30⟩ : ∃ y, y = up2 st13 5 k12 (st13 5 (k12 + 70)) := ⟨_, rfl⟩
      have hG : MG [1, 2, 3, 4, 5, 6, 7, 8, 9, 10, 11, 12, 13, 14, 15, 16, 17, 19, 20, 21, 22, 23] st st30 := by rw [est30]; exact hG.up (rc hIst13 (mr55 _)) (pn (pcl_5_0_490 k12 (by omega) (by omega)) (by decide))
      have hG31 : MG [1, 2, 3, 4, 5, 6, 7, 8, 9, 10, 11, 12, 13, 14, 15, 16, 17, 19, 20, 21, 22, 23, 18] st st30 := by rw [est30]; exact hG15.up (rc hIst13 (mr55 _)) (pn (pcl_5_0_490 k12 (by omega) (by omega)) (by decide))
      rw [← est30] at hP
      refine lv_iinc (v := (nI (k12 + 1))) (lv' := [(1, .int (nI (k12 + 1))), (0, .ref (ar 0))]) hx hb dX12_snap_33 hl (k := 0) rfl (nI_add k12 1) (by decide) rfl (fun ls hl => ?_)
      refine lv_goto (tgt := 11) hx hb dX12_snap_36 (by decide) ?_
      exact ih18 (491 - (k12 + 1)) _ _ _ _ (by omega) ⟨(k12 + 1), st30, sl14, rfl, by omega, by omega, hP, hG, hG31, hL, hS, lv_sub hl [0, 1] rfl, rfl⟩
set_option maxHeartbeats 4000000 in
set_option maxRecDepth 100000 in
theorem m_why0 (l : Launch) (dC : Nat → ClassId) (dI : Nat → Nat → Nat) (ar : Nat → Nat) (cy : Nat → ClassId) (sz : Nat) (hN : MN ar) (st : Nat → Nat → Int32) (sl : Nat → Nat → Int64) (va : Nat) (vb : Int32) (vc : Int32) (vd : Int32) (hva : va < 5) (hI : MI st) : Met l yX12_why wsX12_why ({ frames := 1, cells := 0, slots := 0, locals := 21 }) (va_Pc [.ref (ar 0), .int 0, .int (nI va), .int vb, .int vc, .int vd] (mPre dC dI ar cy sz st sl)) (va_Qi (fun (r : Int32) (x : MT) => x = (st, sl) ∧ (True)) (mB dC dI ar cy) (MA ar sz)) 0 0 (MA ar sz) := by
  refine Met.ofW (cc := cX12_why) (maxL := 6) (ret := (some .int)) (by decide) rfl ?_
  intro p e s m args below meth c s₁ B hml hv
  obtain ⟨rfl, hsz, hP, hK⟩ := hv
  have hx := B.exec
  have hb := B.bytes
  have hr := B.returns
  have hts := atoms_spec (ws := wsX12_why) B.pre
  have hown : s.vm.findClass RX12 = some m.cls := findClass_of_methodNamed B.named
  subst hsz
  have hS : va_S (MA ar s.heap.size) s.heap s.heap [] := va_S.rf
  have hG : MG [1, 2, 3, 4, 5, 6, 7, 8, 9, 10, 11, 12, 13, 14, 15, 16, 17, 19, 20, 21, 22, 23] st st := MG.rf hI
  have hl := lv_entry ([.ref (ar 0), .int 0, .int (nI va), .int vb, .int vc, .int vd]) (n := 6) (Nat.le_of_ble_eq_true rfl)
  rw [lg_entry_eq]
  generalize (lg_sl ([.ref (ar 0), .int 0, .int (nI va), .int vb, .int vc, .int vd]) ++ List.replicate (6 - (lg_sl ([.ref (ar 0), .int 0, .int (nI va), .int vb, .int vc, .int vd])).length) Slot.unset).toArray = ls at hl ⊢
  have hl : lv_has ls 6 [(0, .ref (ar 0)), (1, .int 0), (2, .int (nI va)), (3, .int vb), (4, .int vc), (5, .int vd)] := hl
  clear hI
  refine lv_iload_n hx hb dX12_why_0 rfl (lv_at hl 1 rfl) ?_
  refine lv_tableIn (tgt := 36) hx hb dX12_why_1 (by decide) (by decide) rfl (by decide) ?_
  refine lv_iload hx hb dX12_why_36 (lv_at hl 4 rfl) ?_
  refine lv_iload hx hb dX12_why_38 (lv_at hl 5 rfl) ?_
  refine va_calli (va_runS (As := [.int vc, .int vd]) (rest := []) ⟨hx, hb, hml, hown, hts⟩ (m_hoursIn l dC dI ar cy _ hN st sl vc vd  hG.1) (va_cwS 2 hts gX12_why_X12_hoursIn rfl rfl rfl (by decide +kernel) ⟨Nat.le_of_ble_eq_true rfl, Nat.le_of_ble_eq_true rfl⟩) ⟨fun a U g mk q => ⟨q.1, mPre.blind q.2⟩, fun U hU hW => ⟨rfl, mPre.of hP hK hU hW⟩⟩ rfl rfl hl.1 rfl (lv_room (Nat.le_of_ble_eq_true rfl)) dX12_why_40 ⟨Nat.le_of_ble_eq_true rfl, Nat.le_of_ble_eq_true rfl⟩) hS (fun q _ h => MA.le hS.1 q h) (MA.le hS.1) (fun r1 x t H locs ht hvm hw hB _ _ hS => ?_)
  have hP := mB.at ht hB
  clear hB ht hvm
  obtain ⟨rfl, hw⟩ := hw
  have hP : va_P (dC, dI) vwCl (mw ar cy st sl) _ := hP
  clear hw
  refine lv_aload_n hx hb dX12_why_43 rfl (lv_at hl 0 rfl) ?_
  refine va_get (D := (dC, dI)) (ci := 11) (v := .ref (ar 2)) (C := RX12) (T := TX12) (N := 47) hx hb hts ii_X12_why hown hK hP 0 rfl rfl 14 (by decide) (hts _ mm_X12_why_1) (fun _ hh => hh) rfl dX12_why_44 ?_
  refine lv_bipush (v := 66) hx hb dX12_why_47 (by decide) ?_
  refine lv_iload_n hx hb dX12_why_49 rfl (lv_at hl 2 rfl) ?_
  refine lv_iadd hx hb dX12_why_50 ?_
  refine zz_top (v := nI (66 + va)) (nI_add 66 va) ?_
  refine va_iald hx hb hK hP 2 1 rfl rfl (i := (nI (66 + va))) (vp_in_nI (by omega) (by decide)) dX12_why_51 ?_
  obtain ⟨n2, hn2, en2⟩ := hG.1.at (r := 2) (k := (66 + va)) (mr_2_66_71 (66 + va) (by omega) (by omega)) (by decide)
  refine zz_top (v := nI n2) (by rw [nI_clamp (by omega)]; exact en2) ?_
  clear en2
  refine lv_iconst (v := (-1)) hx hb dX12_why_52 (by decide) ?_
  refine lv_ixor hx hb dX12_why_53 ?_
  refine lv_topi (fun z3 ez3 => ?_)
  clear ez3
  refine lv_iand hx hb dX12_why_54 ?_
  refine lv_topi (fun z4 ez4 => ?_)
  clear ez4
  refine lv_if_ne (tgt := 62) hx hb dX12_why_55 (by decide) (fun c1 => ?_) (fun c1 => ?_)
  · refine lv_iconst (v := 0) hx hb dX12_why_62 (by decide) ?_
    exact W.iret (v := 0) hx hb hr (fun t ht hW => ⟨⟨0, (st, sl), rfl, ⟨rfl, trivial⟩, mB.of ht hP⟩, hS.F ht⟩) hS.2.2 dX12_why_63
  · refine lv_iconst (v := 1) hx hb dX12_why_58 (by decide) ?_
    refine lv_goto (tgt := 63) hx hb dX12_why_59 (by decide) ?_
    exact W.iret (v := 1) hx hb hr (fun t ht hW => ⟨⟨1, (st, sl), rfl, ⟨rfl, trivial⟩, mB.of ht hP⟩, hS.F ht⟩) hS.2.2 dX12_why_63
set_option maxHeartbeats 4000000 in
set_option maxRecDepth 100000 in
theorem m_why1 (l : Launch) (dC : Nat → ClassId) (dI : Nat → Nat → Nat) (ar : Nat → Nat) (cy : Nat → ClassId) (sz : Nat) (hN : MN ar) (st : Nat → Nat → Int32) (sl : Nat → Nat → Int64) (va : Nat) (vb : Int32) (vc : Int32) (vd : Int32) (hva : va < 5) (hI : MI st) : Met l yX12_why wsX12_why ({ frames := 1, cells := 0, slots := 0, locals := 21 }) (va_Pc [.ref (ar 0), .int 1, .int (nI va), .int vb, .int vc, .int vd] (mPre dC dI ar cy sz st sl)) (va_Qi (fun (r : Int32) (x : MT) => x = (st, sl) ∧ (True)) (mB dC dI ar cy) (MA ar sz)) 0 0 (MA ar sz) := by
  refine Met.ofW (cc := cX12_why) (maxL := 6) (ret := (some .int)) (by decide) rfl ?_
  intro p e s m args below meth c s₁ B hml hv
  obtain ⟨rfl, hsz, hP, hK⟩ := hv
  have hx := B.exec
  have hb := B.bytes
  have hr := B.returns
  have hts := atoms_spec (ws := wsX12_why) B.pre
  have hown : s.vm.findClass RX12 = some m.cls := findClass_of_methodNamed B.named
  subst hsz
  have hS : va_S (MA ar s.heap.size) s.heap s.heap [] := va_S.rf
  have hG : MG [1, 2, 3, 4, 5, 6, 7, 8, 9, 10, 11, 12, 13, 14, 15, 16, 17, 19, 20, 21, 22, 23] st st := MG.rf hI
  have hl := lv_entry ([.ref (ar 0), .int 1, .int (nI va), .int vb, .int vc, .int vd]) (n := 6) (Nat.le_of_ble_eq_true rfl)
  rw [lg_entry_eq]
  generalize (lg_sl ([.ref (ar 0), .int 1, .int (nI va), .int vb, .int vc, .int vd]) ++ List.replicate (6 - (lg_sl ([.ref (ar 0), .int 1, .int (nI va), .int vb, .int vc, .int vd])).length) Slot.unset).toArray = ls at hl ⊢
  have hl : lv_has ls 6 [(0, .ref (ar 0)), (1, .int 1), (2, .int (nI va)), (3, .int vb), (4, .int vc), (5, .int vd)] := hl
  clear hI
  refine lv_iload_n hx hb dX12_why_0 rfl (lv_at hl 1 rfl) ?_
  refine lv_tableIn (tgt := 64) hx hb dX12_why_1 (by decide) (by decide) rfl (by decide) ?_
  refine lv_iload hx hb dX12_why_64 (lv_at hl 4 rfl) ?_
  refine lv_iload hx hb dX12_why_66 (lv_at hl 5 rfl) ?_
  refine va_calli (va_runS (As := [.int vc, .int vd]) (rest := []) ⟨hx, hb, hml, hown, hts⟩ (m_hoursIn l dC dI ar cy _ hN st sl vc vd  hG.1) (va_cwS 2 hts gX12_why_X12_hoursIn rfl rfl rfl (by decide +kernel) ⟨Nat.le_of_ble_eq_true rfl, Nat.le_of_ble_eq_true rfl⟩) ⟨fun a U g mk q => ⟨q.1, mPre.blind q.2⟩, fun U hU hW => ⟨rfl, mPre.of hP hK hU hW⟩⟩ rfl rfl hl.1 rfl (lv_room (Nat.le_of_ble_eq_true rfl)) dX12_why_68 ⟨Nat.le_of_ble_eq_true rfl, Nat.le_of_ble_eq_true rfl⟩) hS (fun q _ h => MA.le hS.1 q h) (MA.le hS.1) (fun r1 x t H locs ht hvm hw hB _ _ hS => ?_)
  have hP := mB.at ht hB
  clear hB ht hvm
  obtain ⟨rfl, hw⟩ := hw
  have hP : va_P (dC, dI) vwCl (mw ar cy st sl) _ := hP
  clear hw
  refine lv_aload_n hx hb dX12_why_71 rfl (lv_at hl 0 rfl) ?_
  refine va_get (D := (dC, dI)) (ci := 11) (v := .ref (ar 2)) (C := RX12) (T := TX12) (N := 47) hx hb hts ii_X12_why hown hK hP 0 rfl rfl 14 (by decide) (hts _ mm_X12_why_1) (fun _ hh => hh) rfl dX12_why_72 ?_
  refine lv_bipush (v := 66) hx hb dX12_why_75 (by decide) ?_
  refine lv_iload_n hx hb dX12_why_77 rfl (lv_at hl 2 rfl) ?_
  refine lv_iadd hx hb dX12_why_78 ?_
  refine zz_top (v := nI (66 + va)) (nI_add 66 va) ?_
  refine va_iald hx hb hK hP 2 1 rfl rfl (i := (nI (66 + va))) (vp_in_nI (by omega) (by decide)) dX12_why_79 ?_
  obtain ⟨n2, hn2, en2⟩ := hG.1.at (r := 2) (k := (66 + va)) (mr_2_66_71 (66 + va) (by omega) (by omega)) (by decide)
  refine zz_top (v := nI n2) (by rw [nI_clamp (by omega)]; exact en2) ?_
  clear en2
  refine lv_iand hx hb dX12_why_80 ?_
  refine lv_topi (fun z3 ez3 => ?_)
  clear ez3
  refine lv_if_ne (tgt := 88) hx hb dX12_why_81 (by decide) (fun c1 => ?_) (fun c1 => ?_)
  · refine lv_iconst (v := 0) hx hb dX12_why_88 (by decide) ?_
    exact W.iret (v := 0) hx hb hr (fun t ht hW => ⟨⟨0, (st, sl), rfl, ⟨rfl, trivial⟩, mB.of ht hP⟩, hS.F ht⟩) hS.2.2 dX12_why_89
  · refine lv_iconst (v := 1) hx hb dX12_why_84 (by decide) ?_
    refine lv_goto (tgt := 89) hx hb dX12_why_85 (by decide) ?_
    exact W.iret (v := 1) hx hb hr (fun t ht hW => ⟨⟨1, (st, sl), rfl, ⟨rfl, trivial⟩, mB.of ht hP⟩, hS.F ht⟩) hS.2.2 dX12_why_89
set_option maxHeartbeats 4000000 in
set_option maxRecDepth 100000 in
theorem m_why2 (l : Launch) (dC : Nat → ClassId) (dI : Nat → Nat → Nat) (ar : Nat → Nat) (cy : Nat → ClassId) (sz : Nat) (hN : MN ar) (st : Nat → Nat → Int32) (sl : Nat → Nat → Int64) (va : Int32) (vb : Int32) (vc : Int32) (vd : Int32) (hI : MI st) : Met l yX12_why wsX12_why ({ frames := 0, cells := 0, slots := 0, locals := 0 }) (va_Pc [.ref (ar 0), .int 2, .int va, .int vb, .int vc, .int vd] (mPre dC dI ar cy sz st sl)) (va_Qi (fun (r : Int32) (x : MT) => x = (st, sl) ∧ (True)) (mB dC dI ar cy) (MA ar sz)) 0 0 (MA ar sz) := by
  refine Met.ofW (cc := cX12_why) (maxL := 6) (ret := (some .int)) (by decide) rfl ?_
  intro p e s m args below meth c s₁ B hml hv
  obtain ⟨rfl, hsz, hP, hK⟩ := hv
  have hx := B.exec
  have hb := B.bytes
  have hr := B.returns
  have hts := atoms_spec (ws := wsX12_why) B.pre
  have hown : s.vm.findClass RX12 = some m.cls := findClass_of_methodNamed B.named
  subst hsz
  have hS : va_S (MA ar s.heap.size) s.heap s.heap [] := va_S.rf
  have hG : MG [1, 2, 3, 4, 5, 6, 7, 8, 9, 10, 11, 12, 13, 14, 15, 16, 17, 19, 20, 21, 22, 23] st st := MG.rf hI
  have hl := lv_entry ([.ref (ar 0), .int 2, .int va, .int vb, .int vc, .int vd]) (n := 6) (Nat.le_of_ble_eq_true rfl)
  rw [lg_entry_eq]
  generalize (lg_sl ([.ref (ar 0), .int 2, .int va, .int vb, .int vc, .int vd]) ++ List.replicate (6 - (lg_sl ([.ref (ar 0), .int 2, .int va, .int vb, .int vc, .int vd])).length) Slot.unset).toArray = ls at hl ⊢
  have hl : lv_has ls 6 [(0, .ref (ar 0)), (1, .int 2), (2, .int va), (3, .int vb), (4, .int vc), (5, .int vd)] := hl
  clear hI
  refine lv_iload_n hx hb dX12_why_0 rfl (lv_at hl 1 rfl) ?_
  refine lv_tableIn (tgt := 90) hx hb dX12_why_1 (by decide) (by decide) rfl (by decide) ?_
  refine lv_aload_n hx hb dX12_why_90 rfl (lv_at hl 0 rfl) ?_
  refine va_get (D := (dC, dI)) (ci := 11) (v := .ref (ar 2)) (C := RX12) (T := TX12) (N := 47) hx hb hts ii_X12_why hown hK hP 0 rfl rfl 14 (by decide) (hts _ mm_X12_why_1) (fun _ hh => hh) rfl dX12_why_91 ?_
  refine lv_bipush (v := 62) hx hb dX12_why_94 (by decide) ?_
  refine va_iald hx hb hK hP 2 1 rfl rfl (i := 62) (zz_in (by decide)) dX12_why_96 ?_
  obtain ⟨n1, hn1, en1⟩ := hG.1.at (r := 2) (k := 62) (by decide : mr 2 62 = 13) (by decide)
  refine zz_top (v := nI n1) (by exact en1) ?_
  clear en1
  refine lv_iload_n hx hb dX12_why_97 rfl (lv_at hl 2 rfl) ?_
  refine lv_icmp_ne (tgt := 105) hx hb dX12_why_98 (by decide) (fun c1 => ?_) (fun c1 => ?_)
  · refine lv_iconst (v := 0) hx hb dX12_why_105 (by decide) ?_
    exact W.iret (v := 0) hx hb hr (fun t ht hW => ⟨⟨0, (st, sl), rfl, ⟨rfl, trivial⟩, mB.of ht hP⟩, hS.F ht⟩) hS.2.2 dX12_why_106
  · refine lv_iconst (v := 1) hx hb dX12_why_101 (by decide) ?_
    refine lv_goto (tgt := 106) hx hb dX12_why_102 (by decide) ?_
    exact W.iret (v := 1) hx hb hr (fun t ht hW => ⟨⟨1, (st, sl), rfl, ⟨rfl, trivial⟩, mB.of ht hP⟩, hS.F ht⟩) hS.2.2 dX12_why_106
set_option maxHeartbeats 4000000 in
set_option maxRecDepth 100000 in
theorem m_why3 (l : Launch) (dC : Nat → ClassId) (dI : Nat → Nat → Nat) (ar : Nat → Nat) (cy : Nat → ClassId) (sz : Nat) (hN : MN ar) (st : Nat → Nat → Int32) (sl : Nat → Nat → Int64) (va : Int32) (vb : Int32) (vc : Int32) (vd : Int32) (hI : MI st) : Met l yX12_why wsX12_why ({ frames := 1, cells := 0, slots := 0, locals := 21 }) (va_Pc [.ref (ar 0), .int 3, .int va, .int vb, .int vc, .int vd] (mPre dC dI ar cy sz st sl)) (va_Qi (fun (r : Int32) (x : MT) => x = (st, sl) ∧ (True)) (mB dC dI ar cy) (MA ar sz)) 0 0 (MA ar sz) := by
  refine Met.ofW (cc := cX12_why) (maxL := 6) (ret := (some .int)) (by decide) rfl ?_
  intro p e s m args below meth c s₁ B hml hv
  obtain ⟨rfl, hsz, hP, hK⟩ := hv
  have hx := B.exec
  have hb := B.bytes
  have hr := B.returns
  have hts := atoms_spec (ws := wsX12_why) B.pre
  have hown : s.vm.findClass RX12 = some m.cls := findClass_of_methodNamed B.named
  subst hsz
  have hS : va_S (MA ar s.heap.size) s.heap s.heap [] := va_S.rf
  have hG : MG [1, 2, 3, 4, 5, 6, 7, 8, 9, 10, 11, 12, 13, 14, 15, 16, 17, 19, 20, 21, 22, 23] st st := MG.rf hI
  have hl := lv_entry ([.ref (ar 0), .int 3, .int va, .int vb, .int vc, .int vd]) (n := 6) (Nat.le_of_ble_eq_true rfl)
  rw [lg_entry_eq]
  generalize (lg_sl ([.ref (ar 0), .int 3, .int va, .int vb, .int vc, .int vd]) ++ List.replicate (6 - (lg_sl ([.ref (ar 0), .int 3, .int va, .int vb, .int vc, .int vd])).length) Slot.unset).toArray = ls at hl ⊢
  have hl : lv_has ls 6 [(0, .ref (ar 0)), (1, .int 3), (2, .int va), (3, .int vb), (4, .int vc), (5, .int vd)] := hl
  clear hI
  refine lv_iload_n hx hb dX12_why_0 rfl (lv_at hl 1 rfl) ?_
  refine lv_tableIn (tgt := 107) hx hb dX12_why_1 (by decide) (by decide) rfl (by decide) ?_
  refine lv_aload_n hx hb dX12_why_107 rfl (lv_at hl 0 rfl) ?_
  refine va_get (D := (dC, dI)) (ci := 11) (v := .ref (ar 2)) (C := RX12) (T := TX12) (N := 47) hx hb hts ii_X12_why hown hK hP 0 rfl rfl 14 (by decide) (hts _ mm_X12_why_1) (fun _ hh => hh) rfl dX12_why_108 ?_
  refine lv_bipush (v := 64) hx hb dX12_why_111 (by decide) ?_
  refine va_iald hx hb hK hP 2 1 rfl rfl (i := 64) (zz_in (by decide)) dX12_why_113 ?_
  refine lv_topi (fun z1 ez1 => ?_)
  clear ez1
  refine lv_iload_n hx hb dX12_why_114 rfl (lv_at hl 2 rfl) ?_
  refine va_calli (va_runS (As := [.int z1, .int va]) (rest := []) ⟨hx, hb, hml, hown, hts⟩ (m_has l dC dI ar cy _ hN st sl z1 va  hG.1) (va_cwS 2 hts gX12_why_X12_has rfl rfl rfl (by decide +kernel) ⟨Nat.le_of_ble_eq_true rfl, Nat.le_of_ble_eq_true rfl⟩) ⟨fun a U g mk q => ⟨q.1, mPre.blind q.2⟩, fun U hU hW => ⟨rfl, mPre.of hP hK hU hW⟩⟩ rfl rfl hl.1 rfl (lv_room (Nat.le_of_ble_eq_true rfl)) dX12_why_115 ⟨Nat.le_of_ble_eq_true rfl, Nat.le_of_ble_eq_true rfl⟩) hS (fun q _ h => MA.le hS.1 q h) (MA.le hS.1) (fun r2 x t H locs ht hvm hw hB _ _ hS => ?_)
  have hP := mB.at ht hB
  clear hB ht hvm
  obtain ⟨rfl, hw⟩ := hw
  have hP : va_P (dC, dI) vwCl (mw ar cy st sl) _ := hP
  rcases hw with rfl | rfl
  · refine lv_iload_n hx hb dX12_why_118 rfl (lv_at hl 3 rfl) ?_
    refine lv_iconst (v := 1) hx hb dX12_why_119 (by decide) ?_
    refine lv_icmp_ne (tgt := 127) hx hb dX12_why_120 (by decide) (fun c1 => ?_) (fun c1 => ?_)
    · refine lv_iconst (v := 0) hx hb dX12_why_127 (by decide) ?_
      refine lv_icmp_ne (tgt := 137) hx hb dX12_why_128 (by decide) (fun _ => ?_) (fun cc => absurd cc (by decide))
      refine lv_iconst (v := 0) hx hb dX12_why_137 (by decide) ?_
      exact W.iret (v := 0) hx hb hr (fun t ht hW => ⟨⟨0, (st, sl), rfl, ⟨rfl, trivial⟩, mB.of ht hP⟩, hS.F ht⟩) hS.2.2 dX12_why_138
    · refine lv_iconst (v := 1) hx hb dX12_why_123 (by decide) ?_
      refine lv_goto (tgt := 128) hx hb dX12_why_124 (by decide) ?_
      refine lv_icmp_ne (tgt := 137) hx hb dX12_why_128 (by decide) (fun cc => absurd (by decide) cc) (fun _ => ?_)
      refine lv_iconst (v := 2) hx hb dX12_why_131 (by decide) ?_
      refine lv_iload_n hx hb dX12_why_132 rfl (lv_at hl 3 rfl) ?_
      refine lv_isub hx hb dX12_why_133 ?_
      refine lv_topi (fun z3 ez3 => ?_)
      clear ez3
      refine lv_goto (tgt := 138) hx hb dX12_why_134 (by decide) ?_
      exact W.iret (v := z3) hx hb hr (fun t ht hW => ⟨⟨z3, (st, sl), rfl, ⟨rfl, trivial⟩, mB.of ht hP⟩, hS.F ht⟩) hS.2.2 dX12_why_138
  · refine lv_iload_n hx hb dX12_why_118 rfl (lv_at hl 3 rfl) ?_
    refine lv_iconst (v := 1) hx hb dX12_why_119 (by decide) ?_
    refine lv_icmp_ne (tgt := 127) hx hb dX12_why_120 (by decide) (fun c4 => ?_) (fun c4 => ?_)
    · refine lv_iconst (v := 0) hx hb dX12_why_127 (by decide) ?_
      refine lv_icmp_ne (tgt := 137) hx hb dX12_why_128 (by decide) (fun cc => absurd (by decide) cc) (fun _ => ?_)
      refine lv_iconst (v := 2) hx hb dX12_why_131 (by decide) ?_
      refine lv_iload_n hx hb dX12_why_132 rfl (lv_at hl 3 rfl) ?_
      refine lv_isub hx hb dX12_why_133 ?_
      refine lv_topi (fun z4 ez4 => ?_)
      clear ez4
      refine lv_goto (tgt := 138) hx hb dX12_why_134 (by decide) ?_
      exact W.iret (v := z4) hx hb hr (fun t ht hW => ⟨⟨z4, (st, sl), rfl, ⟨rfl, trivial⟩, mB.of ht hP⟩, hS.F ht⟩) hS.2.2 dX12_why_138
    · refine lv_iconst (v := 1) hx hb dX12_why_123 (by decide) ?_
      refine lv_goto (tgt := 128) hx hb dX12_why_124 (by decide) ?_
      refine lv_icmp_ne (tgt := 137) hx hb dX12_why_128 (by decide) (fun _ => ?_) (fun cc => absurd cc (by decide))
      refine lv_iconst (v := 0) hx hb dX12_why_137 (by decide) ?_
      exact W.iret (v := 0) hx hb hr (fun t ht hW => ⟨⟨0, (st, sl), rfl, ⟨rfl, trivial⟩, mB.of ht hP⟩, hS.F ht⟩) hS.2.2 dX12_why_138
set_option maxHeartbeats 4000000 in
set_option maxRecDepth 100000 in
theorem m_why4 (l : Launch) (dC : Nat → ClassId) (dI : Nat → Nat → Nat) (ar : Nat → Nat) (cy : Nat → ClassId) (sz : Nat) (hN : MN ar) (st : Nat → Nat → Int32) (sl : Nat → Nat → Int64) (va : Nat) (vb : Int32) (vc : Int32) (vd : Int32) (hva : va < 8) (hI : MI st) : Met l yX12_why wsX12_why ({ frames := 0, cells := 0, slots := 0, locals := 0 }) (va_Pc [.ref (ar 0), .int 4, .int (nI va), .int vb, .int vc, .int vd] (mPre dC dI ar cy sz st sl)) (va_Qi (fun (r : Int32) (x : MT) => x = (st, sl) ∧ (True)) (mB dC dI ar cy) (MA ar sz)) 0 0 (MA ar sz) := by
  refine Met.ofW (cc := cX12_why) (maxL := 6) (ret := (some .int)) (by decide) rfl ?_
  intro p e s m args below meth c s₁ B hml hv
  obtain ⟨rfl, hsz, hP, hK⟩ := hv
  have hx := B.exec
  have hb := B.bytes
  have hr := B.returns
  have hts := atoms_spec (ws := wsX12_why) B.pre
  have hown : s.vm.findClass RX12 = some m.cls := findClass_of_methodNamed B.named
  subst hsz
  have hS : va_S (MA ar s.heap.size) s.heap s.heap [] := va_S.rf
  have hG : MG [1, 2, 3, 4, 5, 6, 7, 8, 9, 10, 11, 12, 13, 14, 15, 16, 17, 19, 20, 21, 22, 23] st st := MG.rf hI
  have hl := lv_entry ([.ref (ar 0), .int 4, .int (nI va), .int vb, .int vc, .int vd]) (n := 6) (Nat.le_of_ble_eq_true rfl)
  rw [lg_entry_eq]
  generalize (lg_sl ([.ref (ar 0), .int 4, .int (nI va), .int vb, .int vc, .int vd]) ++ List.replicate (6 - (lg_sl ([.ref (ar 0), .int 4, .int (nI va), .int vb, .int vc, .int vd])).length) Slot.unset).toArray = ls at hl ⊢
  have hl : lv_has ls 6 [(0, .ref (ar 0)), (1, .int 4), (2, .int (nI va)), (3, .int vb), (4, .int vc), (5, .int vd)] := hl
  clear hI
  refine lv_iload_n hx hb dX12_why_0 rfl (lv_at hl 1 rfl) ?_
  refine lv_tableIn (tgt := 139) hx hb dX12_why_1 (by decide) (by decide) rfl (by decide) ?_
  refine lv_aload_n hx hb dX12_why_139 rfl (lv_at hl 0 rfl) ?_
  refine va_get (D := (dC, dI)) (ci := 11) (v := .ref (ar 2)) (C := RX12) (T := TX12) (N := 47) hx hb hts ii_X12_why hown hK hP 0 rfl rfl 14 (by decide) (hts _ mm_X12_why_1) (fun _ hh => hh) rfl dX12_why_140 ?_
  refine lv_bipush (v := 71) hx hb dX12_why_143 (by decide) ?_
  refine lv_iload_n hx hb dX12_why_145 rfl (lv_at hl 2 rfl) ?_
  refine lv_iadd hx hb dX12_why_146 ?_
  refine zz_top (v := nI (71 + va)) (nI_add 71 va) ?_
  refine va_iald hx hb hK hP 2 1 rfl rfl (i := (nI (71 + va))) (vp_in_nI (by omega) (by decide)) dX12_why_147 ?_
  obtain ⟨n1, hn1, en1⟩ := hG.1.at (r := 2) (k := (71 + va)) (mr_2_71_79 (71 + va) (by omega) (by omega)) (by decide)
  refine zz_top (v := nI n1) (by rw [nI_clamp (by omega)]; exact en1) ?_
  clear en1
  refine lv_iload_n hx hb dX12_why_148 rfl (lv_at hl 3 rfl) ?_
  refine lv_icmp_ne (tgt := 184) hx hb dX12_why_149 (by decide) (fun c1 => ?_) (fun c1 => ?_)
  · refine lv_iconst (v := 0) hx hb dX12_why_184 (by decide) ?_
    exact W.iret (v := 0) hx hb hr (fun t ht hW => ⟨⟨0, (st, sl), rfl, ⟨rfl, trivial⟩, mB.of ht hP⟩, hS.F ht⟩) hS.2.2 dX12_why_185
  · refine lv_aload_n hx hb dX12_why_152 rfl (lv_at hl 0 rfl) ?_
    refine va_get (D := (dC, dI)) (ci := 11) (v := .ref (ar 2)) (C := RX12) (T := TX12) (N := 47) hx hb hts ii_X12_why hown hK hP 0 rfl rfl 14 (by decide) (hts _ mm_X12_why_1) (fun _ hh => hh) rfl dX12_why_153 ?_
    refine lv_bipush (v := 79) hx hb dX12_why_156 (by decide) ?_
    refine lv_iload_n hx hb dX12_why_158 rfl (lv_at hl 2 rfl) ?_
    refine lv_iadd hx hb dX12_why_159 ?_
    refine zz_top (v := nI (79 + va)) (nI_add 79 va) ?_
    refine va_iald hx hb hK hP 2 1 rfl rfl (i := (nI (79 + va))) (vp_in_nI (by omega) (by decide)) dX12_why_160 ?_
    refine lv_topi (fun z2 ez2 => ?_)
    clear ez2
    refine lv_iload hx hb dX12_why_161 (lv_at hl 4 rfl) ?_
    refine lv_icmp_ne (tgt := 184) hx hb dX12_why_163 (by decide) (fun c2 => ?_) (fun c2 => ?_)
    · refine lv_iconst (v := 0) hx hb dX12_why_184 (by decide) ?_
      exact W.iret (v := 0) hx hb hr (fun t ht hW => ⟨⟨0, (st, sl), rfl, ⟨rfl, trivial⟩, mB.of ht hP⟩, hS.F ht⟩) hS.2.2 dX12_why_185
    · refine lv_aload_n hx hb dX12_why_166 rfl (lv_at hl 0 rfl) ?_
      refine va_get (D := (dC, dI)) (ci := 11) (v := .ref (ar 2)) (C := RX12) (T := TX12) (N := 47) hx hb hts ii_X12_why hown hK hP 0 rfl rfl 14 (by decide) (hts _ mm_X12_why_1) (fun _ hh => hh) rfl dX12_why_167 ?_
      refine lv_bipush (v := 87) hx hb dX12_why_170 (by decide) ?_
      refine lv_iload_n hx hb dX12_why_172 rfl (lv_at hl 2 rfl) ?_
      refine lv_iadd hx hb dX12_why_173 ?_
      refine zz_top (v := nI (87 + va)) (nI_add 87 va) ?_
      refine va_iald hx hb hK hP 2 1 rfl rfl (i := (nI (87 + va))) (vp_in_nI (by omega) (by decide)) dX12_why_174 ?_
      refine lv_topi (fun z3 ez3 => ?_)
      clear ez3
      refine lv_iload hx hb dX12_why_175 (lv_at hl 5 rfl) ?_
      refine lv_icmp_ne (tgt := 184) hx hb dX12_why_177 (by decide) (fun c3 => ?_) (fun c3 => ?_)
      · refine lv_iconst (v := 0) hx hb dX12_why_184 (by decide) ?_
        exact W.iret (v := 0) hx hb hr (fun t ht hW => ⟨⟨0, (st, sl), rfl, ⟨rfl, trivial⟩, mB.of ht hP⟩, hS.F ht⟩) hS.2.2 dX12_why_185
      · refine lv_iconst (v := 1) hx hb dX12_why_180 (by decide) ?_
        refine lv_goto (tgt := 185) hx hb dX12_why_181 (by decide) ?_
        exact W.iret (v := 1) hx hb hr (fun t ht hW => ⟨⟨1, (st, sl), rfl, ⟨rfl, trivial⟩, mB.of ht hP⟩, hS.F ht⟩) hS.2.2 dX12_why_185
set_option maxHeartbeats 4000000 in
set_option maxRecDepth 100000 in
theorem m_why5 (l : Launch) (dC : Nat → ClassId) (dI : Nat → Nat → Nat) (ar : Nat → Nat) (cy : Nat → ClassId) (sz : Nat) (hN : MN ar) (st : Nat → Nat → Int32) (sl : Nat → Nat → Int64) (va : Int32) (vb : Int32) (vc : Int32) (vd : Int32) (hI : MI st) : Met l yX12_why wsX12_why ({ frames := 0, cells := 0, slots := 0, locals := 0 }) (va_Pc [.ref (ar 0), .int 5, .int va, .int vb, .int vc, .int vd] (mPre dC dI ar cy sz st sl)) (va_Qi (fun (r : Int32) (x : MT) => x = (st, sl) ∧ (True)) (mB dC dI ar cy) (MA ar sz)) 0 0 (MA ar sz) := by
  refine Met.ofW (cc := cX12_why) (maxL := 6) (ret := (some .int)) (by decide) rfl ?_
  intro p e s m args below meth c s₁ B hml hv
  obtain ⟨rfl, hsz, hP, hK⟩ := hv
  have hx := B.exec
  have hb := B.bytes
  have hr := B.returns
  have hts := atoms_spec (ws := wsX12_why) B.pre
  have hown : s.vm.findClass RX12 = some m.cls := findClass_of_methodNamed B.named
  subst hsz
  have hS : va_S (MA ar s.heap.size) s.heap s.heap [] := va_S.rf
  have hG : MG [1, 2, 3, 4, 5, 6, 7, 8, 9, 10, 11, 12, 13, 14, 15, 16, 17, 19, 20, 21, 22, 23] st st := MG.rf hI
  have hl := lv_entry ([.ref (ar 0), .int 5, .int va, .int vb, .int vc, .int vd]) (n := 6) (Nat.le_of_ble_eq_true rfl)
  rw [lg_entry_eq]
  generalize (lg_sl ([.ref (ar 0), .int 5, .int va, .int vb, .int vc, .int vd]) ++ List.replicate (6 - (lg_sl ([.ref (ar 0), .int 5, .int va, .int vb, .int vc, .int vd])).length) Slot.unset).toArray = ls at hl ⊢
  have hl : lv_has ls 6 [(0, .ref (ar 0)), (1, .int 5), (2, .int va), (3, .int vb), (4, .int vc), (5, .int vd)] := hl
  clear hI
  refine lv_iload_n hx hb dX12_why_0 rfl (lv_at hl 1 rfl) ?_
  refine lv_tableOut (tgt := 186) hx hb dX12_why_1 (by decide) (by decide) ?_
  refine lv_iconst (v := 0) hx hb dX12_why_186 (by decide) ?_
  exact W.iret (v := 0) hx hb hr (fun t ht hW => ⟨⟨0, (st, sl), rfl, ⟨rfl, trivial⟩, mB.of ht hP⟩, hS.F ht⟩) hS.2.2 dX12_why_187
set_option maxHeartbeats 4000000 in
set_option maxRecDepth 100000 in
theorem m_live0 (l : Launch) (dC : Nat → ClassId) (dI : Nat → Nat → Nat) (ar : Nat → Nat) (cy : Nat → ClassId) (sz : Nat) (hN : MN ar) (st : Nat → Nat → Int32) (sl : Nat → Nat → Int64) (va : Nat) (vb : Int32) (vc : Nat) (vd : Nat) (hva : va < 5) (hvc : vc < 24) (hvd : vd < 24) (hI : MI st) (hcd : vc ≤ vd) : Met l yX12_live wsX12_live ({ frames := 1, cells := 0, slots := 0, locals := 21 }) (va_Pc [.ref (ar 0), .int 0, .int (nI va), .int vb, .int (nI vc), .int (nI vd)] (mPre dC dI ar cy sz st sl)) (va_Qv (fun (x : MT) => MG [1, 2, 3, 4, 5, 6, 7, 8, 9, 10, 11, 12, 13, 14, 15, 16, 17, 19, 20, 21, 22, 23] st x.1 ∧ LQ [7, 9] sl x.2 ∧ (True)) (mB dC dI ar cy) (MA ar sz)) 0 0 (MA ar sz) := by
  refine Met.ofW (cc := cX12_live) (maxL := 6) (ret := none) (by decide) rfl ?_
  intro p e s m args below meth c s₁ B hml hv
  obtain ⟨rfl, hsz, hP, hK⟩ := hv
  have hx := B.exec
  have hb := B.bytes
  have hr := B.returns
  have hts := atoms_spec (ws := wsX12_live) B.pre
  have hown : s.vm.findClass RX12 = some m.cls := findClass_of_methodNamed B.named
  subst hsz
  have hS : va_S (MA ar s.heap.size) s.heap s.heap [] := va_S.rf
  have hG : MG [1, 2, 3, 4, 5, 6, 7, 8, 9, 10, 11, 12, 13, 14, 15, 16, 17, 19, 20, 21, 22, 23] st st := MG.rf hI
  have hl := lv_entry ([.ref (ar 0), .int 0, .int (nI va), .int vb, .int (nI vc), .int (nI vd)]) (n := 6) (Nat.le_of_ble_eq_true rfl)
  rw [lg_entry_eq]
  generalize (lg_sl ([.ref (ar 0), .int 0, .int (nI va), .int vb, .int (nI vc), .int (nI vd)]) ++ List.replicate (6 - (lg_sl ([.ref (ar 0), .int 0, .int (nI va), .int vb, .int (nI vc), .int (nI vd)])).length) Slot.unset).toArray = ls at hl ⊢
  have hl : lv_has ls 6 [(0, .ref (ar 0)), (1, .int 0), (2, .int (nI va)), (3, .int vb), (4, .int (nI vc)), (5, .int (nI vd))] := hl
  clear hI
  have hL : LQ [7, 9] sl sl := LQ.rf
  refine lv_iload_n hx hb dX12_live_0 rfl (lv_at hl 1 rfl) ?_
  refine lv_tableIn (tgt := 36) hx hb dX12_live_1 (by decide) (by decide) rfl (by decide) ?_
  refine lv_aload_n hx hb dX12_live_36 rfl (lv_at hl 0 rfl) ?_
  refine va_get (D := (dC, dI)) (ci := 11) (v := .ref (ar 2)) (C := RX12) (T := TX12) (N := 47) hx hb hts ii_X12_live hown hK hP 0 rfl rfl 14 (by decide) (hts _ mm_X12_live_1) (fun _ hh => hh) rfl dX12_live_37 ?_
  refine lv_bipush (v := 66) hx hb dX12_live_40 (by decide) ?_
  refine lv_iload_n hx hb dX12_live_42 rfl (lv_at hl 2 rfl) ?_
  refine lv_iadd hx hb dX12_live_43 ?_
  refine zz_top (v := nI (66 + va)) (nI_add 66 va) ?_
  refine lv_dup2_11 hx hb dX12_live_44 rfl rfl ?_
  refine va_iald hx hb hK hP 2 1 rfl rfl (i := (nI (66 + va))) (vp_in_nI (by omega) (by decide)) dX12_live_45 ?_
  obtain ⟨n1, hn1, en1⟩ := hG.1.at (r := 2) (k := (66 + va)) (mr_2_66_71 (66 + va) (by omega) (by omega)) (by decide)
  refine zz_top (v := nI n1) (by rw [nI_clamp (by omega)]; exact en1) ?_
  clear en1
  refine lv_iload hx hb dX12_live_46 (lv_at hl 4 rfl) ?_
  refine lv_iload hx hb dX12_live_48 (lv_at hl 5 rfl) ?_
  refine va_calli (va_runS (As := [.int (nI vc), .int (nI vd)]) (rest := [.int (nI n1), .int (nI (66 + va)), .ref (ar 2)]) ⟨hx, hb, hml, hown, hts⟩ (m_hoursInN l dC dI ar cy _ hN st sl vc vd (by omega) (by omega) hG.1 (by omega)) (va_cwS 2 hts gX12_live_X12_hoursIn rfl rfl rfl (by decide +kernel) ⟨Nat.le_of_ble_eq_true rfl, Nat.le_of_ble_eq_true rfl⟩) ⟨fun a U g mk q => ⟨q.1, mPre.blind q.2⟩, fun U hU hW => ⟨rfl, mPre.of hP hK hU hW⟩⟩ rfl rfl hl.1 rfl (lv_room (Nat.le_of_ble_eq_true rfl)) dX12_live_50 ⟨Nat.le_of_ble_eq_true rfl, Nat.le_of_ble_eq_true rfl⟩) hS (fun q _ h => MA.le hS.1 q h) (MA.le hS.1) (fun r2 x t H locs ht hvm hw hB _ _ hS => ?_)
  have hP := mB.at ht hB
  clear hB ht hvm
  obtain ⟨rfl, hw⟩ := hw
  have hP : va_P (dC, dI) vwCl (mw ar cy st sl) _ := hP
  obtain ⟨n3, rfl, hf4⟩ := hw
  refine lv_ior hx hb dX12_live_53 ?_
  have ho5 : (n1 ||| n3) < 2 ^ 31 := Nat.or_lt_two_pow (by omega) (by omega)
  refine zz_top (v := nI (n1 ||| n3)) (nI_orN n1 n3) ?_
  refine va_iast hx hb hK hP (mD hN _ _ _ _) hS 2 1 rfl rfl (i := (nI (66 + va))) (vp_in_nI (by omega) (by decide)) dX12_live_54 (fun H locs hP _ hS => ?_)
  rw [nI_clamp (by omega)] at hP
  have hP : va_P (dC, dI) vwCl (mw ar cy (up2 st 2 (66 + va) (nI (n1 ||| n3))) sl) H := hP
  obtain ⟨st6, hP, hG⟩ : ∃ y, va_P (dC, dI) vwCl (mw ar cy y sl) H ∧ MG [1, 2, 3, 4, 5, 6, 7, 8, 9, 10, 11, 12, 13, 14, 15, 16, 17, 19, 20, 21, 22, 23] st y := ⟨up2 st 2 (66 + va) (nI (n1 ||| n3)), hP, hG.up (rn (n := (n1 ||| n3)) (mr_2_66_71 (66 + va) (by omega) (by omega)) (by omega)) (pn (pcl_2_66_71 (66 + va) (by omega) (by omega)) (by decide))⟩
  exact W.vret hx hb hr (fun t ht hW => ⟨⟨(st6, sl), rfl, ⟨hG, hL, trivial⟩, mB.of ht hP⟩, hS.F ht⟩) hS.2.2 dX12_live_55
set_option maxHeartbeats 4000000 in
set_option maxRecDepth 100000 in
theorem m_live1 (l : Launch) (dC : Nat → ClassId) (dI : Nat → Nat → Nat) (ar : Nat → Nat) (cy : Nat → ClassId) (sz : Nat) (hN : MN ar) (st : Nat → Nat → Int32) (sl : Nat → Nat → Int64) (va : Nat) (vb : Int32) (vc : Int32) (vd : Int32) (hva : va < 5) (hI : MI st) : Met l yX12_live wsX12_live ({ frames := 1, cells := 0, slots := 0, locals := 21 }) (va_Pc [.ref (ar 0), .int 1, .int (nI va), .int vb, .int vc, .int vd] (mPre dC dI ar cy sz st sl)) (va_Qv (fun (x : MT) => MG [1, 2, 3, 4, 5, 6, 7, 8, 9, 10, 11, 12, 13, 14, 15, 16, 17, 19, 20, 21, 22, 23] st x.1 ∧ LQ [7, 9] sl x.2 ∧ (True)) (mB dC dI ar cy) (MA ar sz)) 0 0 (MA ar sz) := by
  refine Met.ofW (cc := cX12_live) (maxL := 6) (ret := none) (by decide) rfl ?_
  intro p e s m args below meth c s₁ B hml hv
  obtain ⟨rfl, hsz, hP, hK⟩ := hv
  have hx := B.exec
  have hb := B.bytes
  have hr := B.returns
  have hts := atoms_spec (ws := wsX12_live) B.pre
  have hown : s.vm.findClass RX12 = some m.cls := findClass_of_methodNamed B.named
  subst hsz
  have hS : va_S (MA ar s.heap.size) s.heap s.heap [] := va_S.rf
  have hG : MG [1, 2, 3, 4, 5, 6, 7, 8, 9, 10, 11, 12, 13, 14, 15, 16, 17, 19, 20, 21, 22, 23] st st := MG.rf hI
  have hl := lv_entry ([.ref (ar 0), .int 1, .int (nI va), .int vb, .int vc, .int vd]) (n := 6) (Nat.le_of_ble_eq_true rfl)
  rw [lg_entry_eq]
  generalize (lg_sl ([.ref (ar 0), .int 1, .int (nI va), .int vb, .int vc, .int vd]) ++ List.replicate (6 - (lg_sl ([.ref (ar 0), .int 1, .int (nI va), .int vb, .int vc, .int vd])).length) Slot.unset).toArray = ls at hl ⊢
  have hl : lv_has ls 6 [(0, .ref (ar 0)), (1, .int 1), (2, .int (nI va)), (3, .int vb), (4, .int vc), (5, .int vd)] := hl
  clear hI
  have hL : LQ [7, 9] sl sl := LQ.rf
  refine lv_iload_n hx hb dX12_live_0 rfl (lv_at hl 1 rfl) ?_
  refine lv_tableIn (tgt := 56) hx hb dX12_live_1 (by decide) (by decide) rfl (by decide) ?_
  refine lv_aload_n hx hb dX12_live_56 rfl (lv_at hl 0 rfl) ?_
  refine va_get (D := (dC, dI)) (ci := 11) (v := .ref (ar 2)) (C := RX12) (T := TX12) (N := 47) hx hb hts ii_X12_live hown hK hP 0 rfl rfl 14 (by decide) (hts _ mm_X12_live_1) (fun _ hh => hh) rfl dX12_live_57 ?_
  refine lv_bipush (v := 66) hx hb dX12_live_60 (by decide) ?_
  refine lv_iload_n hx hb dX12_live_62 rfl (lv_at hl 2 rfl) ?_
  refine lv_iadd hx hb dX12_live_63 ?_
  refine zz_top (v := nI (66 + va)) (nI_add 66 va) ?_
  refine lv_dup2_11 hx hb dX12_live_64 rfl rfl ?_
  refine va_iald hx hb hK hP 2 1 rfl rfl (i := (nI (66 + va))) (vp_in_nI (by omega) (by decide)) dX12_live_65 ?_
  obtain ⟨n1, hn1, en1⟩ := hG.1.at (r := 2) (k := (66 + va)) (mr_2_66_71 (66 + va) (by omega) (by omega)) (by decide)
  refine zz_top (v := nI n1) (by rw [nI_clamp (by omega)]; exact en1) ?_
  clear en1
  refine lv_iload hx hb dX12_live_66 (lv_at hl 4 rfl) ?_
  refine lv_iload hx hb dX12_live_68 (lv_at hl 5 rfl) ?_
  refine va_calli (va_runS (As := [.int vc, .int vd]) (rest := [.int (nI n1), .int (nI (66 + va)), .ref (ar 2)]) ⟨hx, hb, hml, hown, hts⟩ (m_hoursIn l dC dI ar cy _ hN st sl vc vd  hG.1) (va_cwS 2 hts gX12_live_X12_hoursIn rfl rfl rfl (by decide +kernel) ⟨Nat.le_of_ble_eq_true rfl, Nat.le_of_ble_eq_true rfl⟩) ⟨fun a U g mk q => ⟨q.1, mPre.blind q.2⟩, fun U hU hW => ⟨rfl, mPre.of hP hK hU hW⟩⟩ rfl rfl hl.1 rfl (lv_room (Nat.le_of_ble_eq_true rfl)) dX12_live_70 ⟨Nat.le_of_ble_eq_true rfl, Nat.le_of_ble_eq_true rfl⟩) hS (fun q _ h => MA.le hS.1 q h) (MA.le hS.1) (fun r2 x t H locs ht hvm hw hB _ _ hS => ?_)
  have hP := mB.at ht hB
  clear hB ht hvm
  obtain ⟨rfl, hw⟩ := hw
  have hP : va_P (dC, dI) vwCl (mw ar cy st sl) _ := hP
  clear hw
  refine lv_iconst (v := (-1)) hx hb dX12_live_73 (by decide) ?_
  refine lv_ixor hx hb dX12_live_74 ?_
  refine lv_topi (fun z3 ez3 => ?_)
  clear ez3
  refine lv_iand hx hb dX12_live_75 ?_
  obtain ⟨n4, hn4, en4⟩ := zz_andl (a := n1) (z := z3) (by omega)
  refine zz_top (v := nI n4) en4 ?_
  clear en4
  refine va_iast hx hb hK hP (mD hN _ _ _ _) hS 2 1 rfl rfl (i := (nI (66 + va))) (vp_in_nI (by omega) (by decide)) dX12_live_76 (fun H locs hP _ hS => ?_)
  rw [nI_clamp (by omega)] at hP
  have hP : va_P (dC, dI) vwCl (mw ar cy (up2 st 2 (66 + va) (nI n4)) sl) H := hP
  obtain ⟨st5, hP, hG⟩ : ∃ y, va_P (dC, dI) vwCl (mw ar cy y sl) H ∧ MG [1, 2, 3, 4, 5, 6, 7, 8, 9, 10, 11, 12, 13, 14, 15, 16, 17, 19, 20, 21, 22, 23] st y := ⟨up2 st 2 (66 + va) (nI n4), hP, hG.up (rn (n := n4) (mr_2_66_71 (66 + va) (by omega) (by omega)) (by omega)) (pn (pcl_2_66_71 (66 + va) (by omega) (by omega)) (by decide))⟩
  exact W.vret hx hb hr (fun t ht hW => ⟨⟨(st5, sl), rfl, ⟨hG, hL, trivial⟩, mB.of ht hP⟩, hS.F ht⟩) hS.2.2 dX12_live_77
set_option maxHeartbeats 4000000 in
set_option maxRecDepth 100000 in
theorem m_live2 (l : Launch) (dC : Nat → ClassId) (dI : Nat → Nat → Nat) (ar : Nat → Nat) (cy : Nat → ClassId) (sz : Nat) (hN : MN ar) (st : Nat → Nat → Int32) (sl : Nat → Nat → Int64) (va : Nat) (vb : Int32) (vc : Int32) (vd : Int32) (hva : va < 13) (hI : MI st) : Met l yX12_live wsX12_live ({ frames := 0, cells := 0, slots := 0, locals := 0 }) (va_Pc [.ref (ar 0), .int 2, .int (nI va), .int vb, .int vc, .int vd] (mPre dC dI ar cy sz st sl)) (va_Qv (fun (x : MT) => MG [1, 2, 3, 4, 5, 6, 7, 8, 9, 10, 11, 12, 13, 14, 15, 16, 17, 19, 20, 21, 22, 23] st x.1 ∧ LQ [7, 9] sl x.2 ∧ (True)) (mB dC dI ar cy) (MA ar sz)) 0 0 (MA ar sz) := by
  refine Met.ofW (cc := cX12_live) (maxL := 6) (ret := none) (by decide) rfl ?_
  intro p e s m args below meth c s₁ B hml hv
  obtain ⟨rfl, hsz, hP, hK⟩ := hv
  have hx := B.exec
  have hb := B.bytes
  have hr := B.returns
  have hts := atoms_spec (ws := wsX12_live) B.pre
  have hown : s.vm.findClass RX12 = some m.cls := findClass_of_methodNamed B.named
  subst hsz
  have hS : va_S (MA ar s.heap.size) s.heap s.heap [] := va_S.rf
  have hG : MG [1, 2, 3, 4, 5, 6, 7, 8, 9, 10, 11, 12, 13, 14, 15, 16, 17, 19, 20, 21, 22, 23] st st := MG.rf hI
  have hl := lv_entry ([.ref (ar 0), .int 2, .int (nI va), .int vb, .int vc, .int vd]) (n := 6) (Nat.le_of_ble_eq_true rfl)
  rw [lg_entry_eq]
  generalize (lg_sl ([.ref (ar 0), .int 2, .int (nI va), .int vb, .int vc, .int vd]) ++ List.replicate (6 - (lg_sl ([.ref (ar 0), .int 2, .int (nI va), .int vb, .int vc, .int vd])).length) Slot.unset).toArray = ls at hl ⊢
  have hl : lv_has ls 6 [(0, .ref (ar 0)), (1, .int 2), (2, .int (nI va)), (3, .int vb), (4, .int vc), (5, .int vd)] := hl
  clear hI
  have hL : LQ [7, 9] sl sl := LQ.rf
  refine lv_iload_n hx hb dX12_live_0 rfl (lv_at hl 1 rfl) ?_
  refine lv_tableIn (tgt := 78) hx hb dX12_live_1 (by decide) (by decide) rfl (by decide) ?_
  refine lv_aload_n hx hb dX12_live_78 rfl (lv_at hl 0 rfl) ?_
  refine va_get (D := (dC, dI)) (ci := 11) (v := .ref (ar 2)) (C := RX12) (T := TX12) (N := 47) hx hb hts ii_X12_live hown hK hP 0 rfl rfl 14 (by decide) (hts _ mm_X12_live_1) (fun _ hh => hh) rfl dX12_live_79 ?_
  refine lv_bipush (v := 62) hx hb dX12_live_82 (by decide) ?_
  refine lv_iload_n hx hb dX12_live_84 rfl (lv_at hl 2 rfl) ?_
  refine va_iast hx hb hK hP (mD hN _ _ _ _) hS 2 1 rfl rfl (i := 62) (zz_in (by decide)) dX12_live_85 (fun H locs hP _ hS => ?_)
  have hP : va_P (dC, dI) vwCl (mw ar cy (up2 st 2 62 (nI va)) sl) H := hP
  obtain ⟨st1, hP, hG⟩ : ∃ y, va_P (dC, dI) vwCl (mw ar cy y sl) H ∧ MG [1, 2, 3, 4, 5, 6, 7, 8, 9, 10, 11, 12, 13, 14, 15, 16, 17, 19, 20, 21, 22, 23] st y := ⟨up2 st 2 62 (nI va), hP, hG.up (rn (n := va) (by decide : mr 2 62 = 13) (by omega)) (pn (by decide : pcl 2 62 = 0) (by decide))⟩
  exact W.vret hx hb hr (fun t ht hW => ⟨⟨(st1, sl), rfl, ⟨hG, hL, trivial⟩, mB.of ht hP⟩, hS.F ht⟩) hS.2.2 dX12_live_86
set_option maxHeartbeats 4000000 in
set_option maxRecDepth 100000 in
theorem m_live3 (l : Launch) (dC : Nat → ClassId) (dI : Nat → Nat → Nat) (ar : Nat → Nat) (cy : Nat → ClassId) (sz : Nat) (hN : MN ar) (st : Nat → Nat → Int32) (sl : Nat → Nat → Int64) (va : Int32) (vb : Int32) (vc : Int32) (vd : Int32) (hI : MI st) : Met l yX12_live wsX12_live ({ frames := 0, cells := 0, slots := 0, locals := 0 }) (va_Pc [.ref (ar 0), .int 3, .int va, .int vb, .int vc, .int vd] (mPre dC dI ar cy sz st sl)) (va_Qv (fun (x : MT) => MG [1, 2, 3, 4, 5, 6, 7, 8, 9, 10, 11, 12, 13, 14, 15, 16, 17, 19, 20, 21, 22, 23] st x.1 ∧ LQ [7, 9] sl x.2 ∧ (True)) (mB dC dI ar cy) (MA ar sz)) 0 0 (MA ar sz) := by
  refine Met.ofW (cc := cX12_live) (maxL := 6) (ret := none) (by decide) rfl ?_
  intro p e s m args below meth c s₁ B hml hv
  obtain ⟨rfl, hsz, hP, hK⟩ := hv
  have hx := B.exec
  have hb := B.bytes
  have hr := B.returns
  have hts := atoms_spec (ws := wsX12_live) B.pre
  have hown : s.vm.findClass RX12 = some m.cls := findClass_of_methodNamed B.named
  subst hsz
  have hS : va_S (MA ar s.heap.size) s.heap s.heap [] := va_S.rf
  have hG : MG [1, 2, 3, 4, 5, 6, 7, 8, 9, 10, 11, 12, 13, 14, 15, 16, 17, 19, 20, 21, 22, 23] st st := MG.rf hI
  have hl := lv_entry ([.ref (ar 0), .int 3, .int va, .int vb, .int vc, .int vd]) (n := 6) (Nat.le_of_ble_eq_true rfl)
  rw [lg_entry_eq]
  generalize (lg_sl ([.ref (ar 0), .int 3, .int va, .int vb, .int vc, .int vd]) ++ List.replicate (6 - (lg_sl ([.ref (ar 0), .int 3, .int va, .int vb, .int vc, .int vd])).length) Slot.unset).toArray = ls at hl ⊢
  have hl : lv_has ls 6 [(0, .ref (ar 0)), (1, .int 3), (2, .int va), (3, .int vb), (4, .int vc), (5, .int vd)] := hl
  clear hI
  have hL : LQ [7, 9] sl sl := LQ.rf
  refine lv_iload_n hx hb dX12_live_0 rfl (lv_at hl 1 rfl) ?_
  refine lv_tableIn (tgt := 87) hx hb dX12_live_1 (by decide) (by decide) rfl (by decide) ?_
  refine lv_aload_n hx hb dX12_live_87 rfl (lv_at hl 0 rfl) ?_
  refine va_get (D := (dC, dI)) (ci := 11) (v := .ref (ar 2)) (C := RX12) (T := TX12) (N := 47) hx hb hts ii_X12_live hown hK hP 0 rfl rfl 14 (by decide) (hts _ mm_X12_live_1) (fun _ hh => hh) rfl dX12_live_88 ?_
  refine lv_bipush (v := 64) hx hb dX12_live_91 (by decide) ?_
  refine lv_dup2_11 hx hb dX12_live_93 rfl rfl ?_
  refine va_iald hx hb hK hP 2 1 rfl rfl (i := 64) (zz_in (by decide)) dX12_live_94 ?_
  refine lv_topi (fun z1 ez1 => ?_)
  clear ez1
  refine lv_iconst (v := 1) hx hb dX12_live_95 (by decide) ?_
  refine lv_iload_n hx hb dX12_live_96 rfl (lv_at hl 2 rfl) ?_
  refine lv_ishl hx hb dX12_live_97 ?_
  refine lv_topi (fun z2 ez2 => ?_)
  clear ez2
  refine lv_ixor hx hb dX12_live_98 ?_
  refine lv_topi (fun z3 ez3 => ?_)
  clear ez3
  refine va_iast hx hb hK hP (mD hN _ _ _ _) hS 2 1 rfl rfl (i := 64) (zz_in (by decide)) dX12_live_99 (fun H locs hP _ hS => ?_)
  have hP : va_P (dC, dI) vwCl (mw ar cy (up2 st 2 64 z3) sl) H := hP
  obtain ⟨st4, hP, hG⟩ : ∃ y, va_P (dC, dI) vwCl (mw ar cy y sl) H ∧ MG [1, 2, 3, 4, 5, 6, 7, 8, 9, 10, 11, 12, 13, 14, 15, 16, 17, 19, 20, 21, 22, 23] st y := ⟨up2 st 2 64 z3, hP, hG.up (rz (by decide : mr 2 64 = 0)) (pn (by decide : pcl 2 64 = 0) (by decide))⟩
  exact W.vret hx hb hr (fun t ht hW => ⟨⟨(st4, sl), rfl, ⟨hG, hL, trivial⟩, mB.of ht hP⟩, hS.F ht⟩) hS.2.2 dX12_live_100
set_option maxHeartbeats 4000000 in
set_option maxRecDepth 100000 in
theorem m_live4 (l : Launch) (dC : Nat → ClassId) (dI : Nat → Nat → Nat) (ar : Nat → Nat) (cy : Nat → ClassId) (sz : Nat) (hN : MN ar) (st : Nat → Nat → Int32) (sl : Nat → Nat → Int64) (va : Nat) (vb : Nat) (vc : Int32) (vd : Int32) (hva : va < 8) (hvb : vb < 5) (hI : MI st) : Met l yX12_live wsX12_live ({ frames := 0, cells := 0, slots := 0, locals := 0 }) (va_Pc [.ref (ar 0), .int 4, .int (nI va), .int (nI vb), .int vc, .int vd] (mPre dC dI ar cy sz st sl)) (va_Qv (fun (x : MT) => MG [1, 2, 3, 4, 5, 6, 7, 8, 9, 10, 11, 12, 13, 14, 15, 16, 17, 19, 20, 21, 22, 23] st x.1 ∧ LQ [7, 9] sl x.2 ∧ (True)) (mB dC dI ar cy) (MA ar sz)) 0 0 (MA ar sz) := by
  refine Met.ofW (cc := cX12_live) (maxL := 6) (ret := none) (by decide) rfl ?_
  intro p e s m args below meth c s₁ B hml hv
  obtain ⟨rfl, hsz, hP, hK⟩ := hv
  have hx := B.exec
  have hb := B.bytes
  have hr := B.returns
  have hts := atoms_spec (ws := wsX12_live) B.pre
  have hown : s.vm.findClass RX12 = some m.cls := findClass_of_methodNamed B.named
  subst hsz
  have hS : va_S (MA ar s.heap.size) s.heap s.heap [] := va_S.rf
  have hG : MG [1, 2, 3, 4, 5, 6, 7, 8, 9, 10, 11, 12, 13, 14, 15, 16, 17, 19, 20, 21, 22, 23] st st := MG.rf hI
  have hl := lv_entry ([.ref (ar 0), .int 4, .int (nI va), .int (nI vb), .int vc, .int vd]) (n := 6) (Nat.le_of_ble_eq_true rfl)
  rw [lg_entry_eq]
  generalize (lg_sl ([.ref (ar 0), .int 4, .int (nI va), .int (nI vb), .int vc, .int vd]) ++ List.replicate (6 - (lg_sl ([.ref (ar 0), .int 4, .int (nI va), .int (nI vb), .int vc, .int vd])).length) Slot.unset).toArray = ls at hl ⊢
  have hl : lv_has ls 6 [(0, .ref (ar 0)), (1, .int 4), (2, .int (nI va)), (3, .int (nI vb)), (4, .int vc), (5, .int vd)] := hl
  clear hI
  have hL : LQ [7, 9] sl sl := LQ.rf
  refine lv_iload_n hx hb dX12_live_0 rfl (lv_at hl 1 rfl) ?_
  refine lv_tableIn (tgt := 101) hx hb dX12_live_1 (by decide) (by decide) rfl (by decide) ?_
  refine lv_aload_n hx hb dX12_live_101 rfl (lv_at hl 0 rfl) ?_
  refine va_get (D := (dC, dI)) (ci := 11) (v := .ref (ar 2)) (C := RX12) (T := TX12) (N := 47) hx hb hts ii_X12_live hown hK hP 0 rfl rfl 14 (by decide) (hts _ mm_X12_live_1) (fun _ hh => hh) rfl dX12_live_102 ?_
  refine lv_bipush (v := 71) hx hb dX12_live_105 (by decide) ?_
  refine lv_iload_n hx hb dX12_live_107 rfl (lv_at hl 2 rfl) ?_
  refine lv_iadd hx hb dX12_live_108 ?_
  refine zz_top (v := nI (71 + va)) (nI_add 71 va) ?_
  refine lv_iload_n hx hb dX12_live_109 rfl (lv_at hl 3 rfl) ?_
  refine va_iast hx hb hK hP (mD hN _ _ _ _) hS 2 1 rfl rfl (i := (nI (71 + va))) (vp_in_nI (by omega) (by decide)) dX12_live_110 (fun H locs hP _ hS => ?_)
  rw [nI_clamp (by omega)] at hP
  have hP : va_P (dC, dI) vwCl (mw ar cy (up2 st 2 (71 + va) (nI vb)) sl) H := hP
  obtain ⟨st1, hP, hG⟩ : ∃ y, va_P (dC, dI) vwCl (mw ar cy y sl) H ∧ MG [1, 2, 3, 4, 5, 6, 7, 8, 9, 10, 11, 12, 13, 14, 15, 16, 17, 19, 20, 21, 22, 23] st y := ⟨up2 st 2 (71 + va) (nI vb), hP, hG.up (rn (n := vb) (mr_2_71_79 (71 + va) (by omega) (by omega)) (by omega)) (pn (pcl_2_71_79 (71 + va) (by omega) (by omega)) (by decide))⟩
  refine lv_aload_n hx hb dX12_live_111 rfl (lv_at hl 0 rfl) ?_
  refine va_get (D := (dC, dI)) (ci := 11) (v := .ref (ar 2)) (C := RX12) (T := TX12) (N := 47) hx hb hts ii_X12_live hown hK hP 0 rfl rfl 14 (by decide) (hts _ mm_X12_live_1) (fun _ hh => hh) rfl dX12_live_112 ?_
  refine lv_bipush (v := 79) hx hb dX12_live_115 (by decide) ?_
  refine lv_iload_n hx hb dX12_live_117 rfl (lv_at hl 2 rfl) ?_
  refine lv_iadd hx hb dX12_live_118 ?_
  refine zz_top (v := nI (79 + va)) (nI_add 79 va) ?_
  refine lv_iload hx hb dX12_live_119 (lv_at hl 4 rfl) ?_
  refine va_iast hx hb hK hP (mD hN _ _ _ _) hS 2 1 rfl rfl (i := (nI (79 + va))) (vp_in_nI (by omega) (by decide)) dX12_live_121 (fun H locs hP _ hS => ?_)
  rw [nI_clamp (by omega)] at hP
  have hP : va_P (dC, dI) vwCl (mw ar cy (up2 st1 2 (79 + va) vc) sl) H := hP
  obtain ⟨st2, hP, hG⟩ : ∃ y, va_P (dC, dI) vwCl (mw ar cy y sl) H ∧ MG [1, 2, 3, 4, 5, 6, 7, 8, 9, 10, 11, 12, 13, 14, 15, 16, 17, 19, 20, 21, 22, 23] st y := ⟨up2 st1 2 (79 + va) vc, hP, hG.up (rz (mr_2_79_87 (79 + va) (by omega) (by omega))) (pn (pcl_2_79_87 (79 + va) (by omega) (by omega)) (by decide))⟩
  refine lv_aload_n hx hb dX12_live_122 rfl (lv_at hl 0 rfl) ?_
  refine va_get (D := (dC, dI)) (ci := 11) (v := .ref (ar 2)) (C := RX12) (T := TX12) (N := 47) hx hb hts ii_X12_live hown hK hP 0 rfl rfl 14 (by decide) (hts _ mm_X12_live_1) (fun _ hh => hh) rfl dX12_live_123 ?_
  refine lv_bipush (v := 87) hx hb dX12_live_126 (by decide) ?_
  refine lv_iload_n hx hb dX12_live_128 rfl (lv_at hl 2 rfl) ?_
  refine lv_iadd hx hb dX12_live_129 ?_
  refine zz_top (v := nI (87 + va)) (nI_add 87 va) ?_
  refine lv_iload hx hb dX12_live_130 (lv_at hl 5 rfl) ?_
  refine va_iast hx hb hK hP (mD hN _ _ _ _) hS 2 1 rfl rfl (i := (nI (87 + va))) (vp_in_nI (by omega) (by decide)) dX12_live_132 (fun H locs hP _ hS => ?_)
  rw [nI_clamp (by omega)] at hP
  have hP : va_P (dC, dI) vwCl (mw ar cy (up2 st2 2 (87 + va) vd) sl) H := hP
  obtain ⟨st3, hP, hG⟩ : ∃ y, va_P (dC, dI) vwCl (mw ar cy y sl) H ∧ MG [1, 2, 3, 4, 5, 6, 7, 8, 9, 10, 11, 12, 13, 14, 15, 16, 17, 19, 20, 21, 22, 23] st y := ⟨up2 st2 2 (87 + va) vd, hP, hG.up (rz (mr_2_87_95 (87 + va) (by omega) (by omega))) (pn (pcl_2_87_95 (87 + va) (by omega) (by omega)) (by decide))⟩
  exact W.vret hx hb hr (fun t ht hW => ⟨⟨(st3, sl), rfl, ⟨hG, hL, trivial⟩, mB.of ht hP⟩, hS.F ht⟩) hS.2.2 dX12_live_133
set_option maxHeartbeats 4000000 in
set_option maxRecDepth 100000 in
theorem m_live5 (l : Launch) (dC : Nat → ClassId) (dI : Nat → Nat → Nat) (ar : Nat → Nat) (cy : Nat → ClassId) (sz : Nat) (hN : MN ar) (st : Nat → Nat → Int32) (sl : Nat → Nat → Int64) (va : Int32) (vb : Int32) (vc : Int32) (vd : Int32) (hI : MI st) : Met l yX12_live wsX12_live ({ frames := 0, cells := 0, slots := 0, locals := 0 }) (va_Pc [.ref (ar 0), .int 5, .int va, .int vb, .int vc, .int vd] (mPre dC dI ar cy sz st sl)) (va_Qv (fun (x : MT) => MG [1, 2, 3, 4, 5, 6, 7, 8, 9, 10, 11, 12, 13, 14, 15, 16, 17, 19, 20, 21, 22, 23] st x.1 ∧ LQ [7, 9] sl x.2 ∧ (True)) (mB dC dI ar cy) (MA ar sz)) 0 0 (MA ar sz) := by
  refine Met.ofW (cc := cX12_live) (maxL := 6) (ret := none) (by decide) rfl ?_
  intro p e s m args below meth c s₁ B hml hv
  obtain ⟨rfl, hsz, hP, hK⟩ := hv
  have hx := B.exec
  have hb := B.bytes
  have hr := B.returns
  have hts := atoms_spec (ws := wsX12_live) B.pre
  have hown : s.vm.findClass RX12 = some m.cls := findClass_of_methodNamed B.named
  subst hsz
  have hS : va_S (MA ar s.heap.size) s.heap s.heap [] := va_S.rf
  have hG : MG [1, 2, 3, 4, 5, 6, 7, 8, 9, 10, 11, 12, 13, 14, 15, 16, 17, 19, 20, 21, 22, 23] st st := MG.rf hI
  have hl := lv_entry ([.ref (ar 0), .int 5, .int va, .int vb, .int vc, .int vd]) (n := 6) (Nat.le_of_ble_eq_true rfl)
  rw [lg_entry_eq]
  generalize (lg_sl ([.ref (ar 0), .int 5, .int va, .int vb, .int vc, .int vd]) ++ List.replicate (6 - (lg_sl ([.ref (ar 0), .int 5, .int va, .int vb, .int vc, .int vd])).length) Slot.unset).toArray = ls at hl ⊢
  have hl : lv_has ls 6 [(0, .ref (ar 0)), (1, .int 5), (2, .int va), (3, .int vb), (4, .int vc), (5, .int vd)] := hl
  clear hI
  have hL : LQ [7, 9] sl sl := LQ.rf
  refine lv_iload_n hx hb dX12_live_0 rfl (lv_at hl 1 rfl) ?_
  refine lv_tableOut (tgt := 134) hx hb dX12_live_1 (by decide) (by decide) ?_
  refine lv_aload_n hx hb dX12_live_134 rfl (lv_at hl 0 rfl) ?_
  refine va_get (D := (dC, dI)) (ci := 11) (v := .ref (ar 2)) (C := RX12) (T := TX12) (N := 47) hx hb hts ii_X12_live hown hK hP 0 rfl rfl 14 (by decide) (hts _ mm_X12_live_1) (fun _ hh => hh) rfl dX12_live_135 ?_
  refine lv_bipush (v := 65) hx hb dX12_live_138 (by decide) ?_
  refine lv_dup2_11 hx hb dX12_live_140 rfl rfl ?_
  refine va_iald hx hb hK hP 2 1 rfl rfl (i := 65) (zz_in (by decide)) dX12_live_141 ?_
  refine lv_topi (fun z1 ez1 => ?_)
  clear ez1
  refine lv_iconst (v := 1) hx hb dX12_live_142 (by decide) ?_
  refine lv_iload_n hx hb dX12_live_143 rfl (lv_at hl 2 rfl) ?_
  refine lv_ishl hx hb dX12_live_144 ?_
  refine lv_topi (fun z2 ez2 => ?_)
  clear ez2
  refine lv_ixor hx hb dX12_live_145 ?_
  refine lv_topi (fun z3 ez3 => ?_)
  clear ez3
  refine va_iast hx hb hK hP (mD hN _ _ _ _) hS 2 1 rfl rfl (i := 65) (zz_in (by decide)) dX12_live_146 (fun H locs hP _ hS => ?_)
  have hP : va_P (dC, dI) vwCl (mw ar cy (up2 st 2 65 z3) sl) H := hP
  obtain ⟨st4, hP, hG⟩ : ∃ y, va_P (dC, dI) vwCl (mw ar cy y sl) H ∧ MG [1, 2, 3, 4, 5, 6, 7, 8, 9, 10, 11, 12, 13, 14, 15, 16, 17, 19, 20, 21, 22, 23] st y := ⟨up2 st 2 65 z3, hP, hG.up (rz (by decide : mr 2 65 = 0)) (pn (by decide : pcl 2 65 = 0) (by decide))⟩
  exact W.vret hx hb hr (fun t ht hW => ⟨⟨(st4, sl), rfl, ⟨hG, hL, trivial⟩, mB.of ht hP⟩, hS.F ht⟩) hS.2.2 dX12_live_147
set_option maxHeartbeats 4000000 in
set_option maxRecDepth 100000 in
theorem m_act0 (l : Launch) (dC : Nat → ClassId) (dI : Nat → Nat → Nat) (ar : Nat → Nat) (cy : Nat → ClassId) (sz : Nat) (hN : MN ar) (st : Nat → Nat → Int32) (sl : Nat → Nat → Int64) (va : Nat) (vb : Int32) (vc : Nat) (vd : Nat) (hva : va < 5) (hvc : vc < 24) (hvd : vd < 24) (hI : MI st) (hcd : vc ≤ vd) : Met l yX12_act wsX12_act ({ frames := 2, cells := 0, slots := 0, locals := 46 }) (va_Pc [.ref (ar 0), .int 0, .int (nI va), .int vb, .int (nI vc), .int (nI vd)] (mPre dC dI ar cy sz st sl)) (va_Qi (fun (r : Int32) (x : MT) => MG [1, 2, 3, 4, 5, 6, 7, 8, 9, 10, 11, 12, 13, 14, 15, 16, 17, 19, 20, 21, 22, 23] st x.1 ∧ LQ [7, 9] sl x.2 ∧ (True)) (mB dC dI ar cy) (MA ar sz)) 0 0 (MA ar sz) := by
  refine Met.ofW (cc := cX12_act) (maxL := 7) (ret := (some .int)) (by decide) rfl ?_
  intro p e s m args below meth c s₁ B hml hv
  obtain ⟨rfl, hsz, hP, hK⟩ := hv
  have hx := B.exec
  have hb := B.bytes
  have hr := B.returns
  have hts := atoms_spec (ws := wsX12_act) B.pre
  have hown : s.vm.findClass RX12 = some m.cls := findClass_of_methodNamed B.named
  subst hsz
  have hS : va_S (MA ar s.heap.size) s.heap s.heap [] := va_S.rf
  have hG : MG [1, 2, 3, 4, 5, 6, 7, 8, 9, 10, 11, 12, 13, 14, 15, 16, 17, 19, 20, 21, 22, 23] st st := MG.rf hI
  have hl := lv_entry ([.ref (ar 0), .int 0, .int (nI va), .int vb, .int (nI vc), .int (nI vd)]) (n := 7) (Nat.le_of_ble_eq_true rfl)
  rw [lg_entry_eq]
  generalize (lg_sl ([.ref (ar 0), .int 0, .int (nI va), .int vb, .int (nI vc), .int (nI vd)]) ++ List.replicate (7 - (lg_sl ([.ref (ar 0), .int 0, .int (nI va), .int vb, .int (nI vc), .int (nI vd)])).length) Slot.unset).toArray = ls at hl ⊢
  have hl : lv_has ls 7 [(0, .ref (ar 0)), (1, .int 0), (2, .int (nI va)), (3, .int vb), (4, .int (nI vc)), (5, .int (nI vd))] := hl
  clear hI
  have hL : LQ [7, 9] sl sl := LQ.rf
  refine lv_aload_n hx hb dX12_act_0 rfl (lv_at hl 0 rfl) ?_
  refine lv_iload_n hx hb dX12_act_1 rfl (lv_at hl 1 rfl) ?_
  refine lv_iload_n hx hb dX12_act_2 rfl (lv_at hl 2 rfl) ?_
  refine lv_iload_n hx hb dX12_act_3 rfl (lv_at hl 3 rfl) ?_
  refine lv_iload hx hb dX12_act_4 (lv_at hl 4 rfl) ?_
  refine lv_iload hx hb dX12_act_6 (lv_at hl 5 rfl) ?_
  refine va_calli (va_runV (As := [.int 0, .int (nI va), .int vb, .int (nI vc), .int (nI vd)]) (rest := []) ⟨hx, hb, hml, hown, hts⟩ (m_why0 l dC dI ar cy _ hN st sl va vb (nI vc) (nI vd) (by omega) hG.1) (cwV 5 hts gX12_act_X12_why rfl rfl rfl (by decide +kernel) ⟨Nat.le_of_ble_eq_true rfl, Nat.le_of_ble_eq_true rfl⟩) ⟨fun a U g mk q => ⟨q.1, mPre.blind q.2⟩, va_recv hK hP (ci := 11) (q0 := 0) rfl rfl, fun U hU hW => ⟨rfl, mPre.of hP hK hU hW⟩⟩ rfl rfl hl.1 rfl (lv_room (Nat.le_of_ble_eq_true rfl)) dX12_act_8 ⟨Nat.le_of_ble_eq_true rfl, Nat.le_of_ble_eq_true rfl⟩) hS (fun q _ h => MA.le hS.1 q h) (MA.le hS.1) (fun r1 x t H locs ht hvm hw hB _ _ hS => ?_)
  have hP := mB.at ht hB
  clear hB ht hvm
  obtain ⟨rfl, hw⟩ := hw
  have hP : va_P (dC, dI) vwCl (mw ar cy st sl) _ := hP
  clear hw
  refine lv_istore (lv' := [(6, .int r1), (0, .ref (ar 0)), (1, .int 0), (2, .int (nI va)), (3, .int vb), (4, .int (nI vc)), (5, .int (nI vd))]) hx hb dX12_act_11 hl (by decide) rfl (fun ls hl => ?_)
  refine lv_iload hx hb dX12_act_13 (lv_at hl 0 rfl) ?_
  refine lv_if_eq (tgt := 21) hx hb dX12_act_15 (by decide) (fun c1 => ?_) (fun c1 => ?_)
  · refine lv_aload_n hx hb dX12_act_21 rfl (lv_at hl 1 rfl) ?_
    refine va_callv (va_runV (As := []) (rest := []) ⟨hx, hb, hml, hown, hts⟩ (m_snap l dC dI ar cy _ hN st sl  hG.1) (cwV 0 hts gX12_act_X12_snap rfl rfl rfl (by decide +kernel) ⟨Nat.le_of_ble_eq_true rfl, Nat.le_of_ble_eq_true rfl⟩) ⟨fun a U g mk q => ⟨q.1, mPre.blind q.2⟩, va_recv hK hP (ci := 11) (q0 := 0) rfl rfl, fun U hU hW => ⟨rfl, mPre.of hP hK hU hW⟩⟩ rfl rfl hl.1 rfl (lv_room (Nat.le_of_ble_eq_true rfl)) dX12_act_22 ⟨Nat.le_of_ble_eq_true rfl, Nat.le_of_ble_eq_true rfl⟩) hS (fun q _ h => MA.le hS.1 q h) (MA.le hS.1) (fun x t H locs ht hvm hw hB _ _ hS => ?_)
    have hP := mB.at ht hB
    clear hB ht hvm
    obtain ⟨st3, sl4⟩ := x
    obtain ⟨hG2, hL2, hw⟩ := hw
    have hL : LQ [7, 9] sl sl4 := hL.tr hL2 (by decide)
    clear hL2
    have hP : va_P (dC, dI) vwCl (mw ar cy st3 sl4) _ := hP
    have hG : MG [1, 2, 3, 4, 5, 6, 7, 8, 9, 10, 11, 12, 13, 14, 15, 16, 17, 19, 20, 21, 22, 23] st st3 := hG.tr hG2 (by decide)
    clear hG2
    clear hw
    refine lv_aload_n hx hb dX12_act_25 rfl (lv_at hl 1 rfl) ?_
    refine lv_iload_n hx hb dX12_act_26 rfl (lv_at hl 2 rfl) ?_
    refine lv_iload_n hx hb dX12_act_27 rfl (lv_at hl 3 rfl) ?_
    refine lv_iload_n hx hb dX12_act_28 rfl (lv_at hl 4 rfl) ?_
    refine lv_iload hx hb dX12_act_29 (lv_at hl 5 rfl) ?_
    refine lv_iload hx hb dX12_act_31 (lv_at hl 6 rfl) ?_
    refine va_callv (va_runV (As := [.int 0, .int (nI va), .int vb, .int (nI vc), .int (nI vd)]) (rest := []) ⟨hx, hb, hml, hown, hts⟩ (m_live0 l dC dI ar cy _ hN st3 sl4 va vb vc vd (by omega) (by omega) (by omega) hG.1 (by omega)) (cwV 5 hts gX12_act_X12_live rfl rfl rfl (by decide +kernel) ⟨Nat.le_of_ble_eq_true rfl, Nat.le_of_ble_eq_true rfl⟩) ⟨fun a U g mk q => ⟨q.1, mPre.blind q.2⟩, va_recv hK hP (ci := 11) (q0 := 0) rfl rfl, fun U hU hW => ⟨rfl, mPre.of hP hK hU hW⟩⟩ rfl rfl hl.1 rfl (lv_room (Nat.le_of_ble_eq_true rfl)) dX12_act_33 ⟨Nat.le_of_ble_eq_true rfl, Nat.le_of_ble_eq_true rfl⟩) hS (fun q _ h => MA.le hS.1 q h) (MA.le hS.1) (fun x t H locs ht hvm hw hB _ _ hS => ?_)
    have hP := mB.at ht hB
    clear hB ht hvm
    obtain ⟨st6, sl7⟩ := x
    obtain ⟨hG2, hL2, hw⟩ := hw
    have hL : LQ [7, 9] sl sl7 := hL.tr hL2 (by decide)
    clear hL2
    have hP : va_P (dC, dI) vwCl (mw ar cy st6 sl7) _ := hP
    have hG : MG [1, 2, 3, 4, 5, 6, 7, 8, 9, 10, 11, 12, 13, 14, 15, 16, 17, 19, 20, 21, 22, 23] st st6 := hG.tr hG2 (by decide)
    clear hG2
    clear hw
    refine lv_iconst (v := 0) hx hb dX12_act_36 (by decide) ?_
    exact W.iret (v := 0) hx hb hr (fun t ht hW => ⟨⟨0, (st6, sl7), rfl, ⟨hG, hL, trivial⟩, mB.of ht hP⟩, hS.F ht⟩) hS.2.2 dX12_act_37
  · refine lv_iload hx hb dX12_act_18 (lv_at hl 0 rfl) ?_
    exact W.iret (v := r1) hx hb hr (fun t ht hW => ⟨⟨r1, (st, sl), rfl, ⟨hG, hL, trivial⟩, mB.of ht hP⟩, hS.F ht⟩) hS.2.2 dX12_act_20
set_option maxHeartbeats 4000000 in
set_option maxRecDepth 100000 in
theorem m_act1 (l : Launch) (dC : Nat → ClassId) (dI : Nat → Nat → Nat) (ar : Nat → Nat) (cy : Nat → ClassId) (sz : Nat) (hN : MN ar) (st : Nat → Nat → Int32) (sl : Nat → Nat → Int64) (va : Nat) (vb : Int32) (vc : Int32) (vd : Int32) (hva : va < 5) (hI : MI st) : Met l yX12_act wsX12_act ({ frames := 2, cells := 0, slots := 0, locals := 46 }) (va_Pc [.ref (ar 0), .int 1, .int (nI va), .int vb, .int vc, .int vd] (mPre dC dI ar cy sz st sl)) (va_Qi (fun (r : Int32) (x : MT) => MG [1, 2, 3, 4, 5, 6, 7, 8, 9, 10, 11, 12, 13, 14, 15, 16, 17, 19, 20, 21, 22, 23] st x.1 ∧ LQ [7, 9] sl x.2 ∧ (True)) (mB dC dI ar cy) (MA ar sz)) 0 0 (MA ar sz) := by
  refine Met.ofW (cc := cX12_act) (maxL := 7) (ret := (some .int)) (by decide) rfl ?_
  intro p e s m args below meth c s₁ B hml hv
  obtain ⟨rfl, hsz, hP, hK⟩ := hv
  have hx := B.exec
  have hb := B.bytes
  have hr := B.returns
  have hts := atoms_spec (ws := wsX12_act) B.pre
  have hown : s.vm.findClass RX12 = some m.cls := findClass_of_methodNamed B.named
  subst hsz
  have hS : va_S (MA ar s.heap.size) s.heap s.heap [] := va_S.rf
  have hG : MG [1, 2, 3, 4, 5, 6, 7, 8, 9, 10, 11, 12, 13, 14, 15, 16, 17, 19, 20, 21, 22, 23] st st := MG.rf hI
  have hl := lv_entry ([.ref (ar 0), .int 1, .int (nI va), .int vb, .int vc, .int vd]) (n := 7) (Nat.le_of_ble_eq_true rfl)
  rw [lg_entry_eq]
  generalize (lg_sl ([.ref (ar 0), .int 1, .int (nI va), .int vb, .int vc, .int vd]) ++ List.replicate (7 - (lg_sl ([.ref (ar 0), .int 1, .int (nI va), .int vb, .int vc, .int vd])).length) Slot.unset).toArray = ls at hl ⊢
  have hl : lv_has ls 7 [(0, .ref (ar 0)), (1, .int 1), (2, .int (nI va)), (3, .int vb), (4, .int vc), (5, .int vd)] := hl
  clear hI
  have hL : LQ [7, 9] sl sl := LQ.rf
  refine lv_aload_n hx hb dX12_act_0 rfl (lv_at hl 0 rfl) ?_
  refine lv_iload_n hx hb dX12_act_1 rfl (lv_at hl 1 rfl) ?_
  refine lv_iload_n hx hb dX12_act_2 rfl (lv_at hl 2 rfl) ?_
  refine lv_iload_n hx hb dX12_act_3 rfl (lv_at hl 3 rfl) ?_
  refine lv_iload hx hb dX12_act_4 (lv_at hl 4 rfl) ?_
  refine lv_iload hx hb dX12_act_6 (lv_at hl 5 rfl) ?_
  refine va_calli (va_runV (As := [.int 1, .int (nI va), .int vb, .int vc, .int vd]) (rest := []) ⟨hx, hb, hml, hown, hts⟩ (m_why1 l dC dI ar cy _ hN st sl va vb vc vd (by omega) hG.1) (cwV 5 hts gX12_act_X12_why rfl rfl rfl (by decide +kernel) ⟨Nat.le_of_ble_eq_true rfl, Nat.le_of_ble_eq_true rfl⟩) ⟨fun a U g mk q => ⟨q.1, mPre.blind q.2⟩, va_recv hK hP (ci := 11) (q0 := 0) rfl rfl, fun U hU hW => ⟨rfl, mPre.of hP hK hU hW⟩⟩ rfl rfl hl.1 rfl (lv_room (Nat.le_of_ble_eq_true rfl)) dX12_act_8 ⟨Nat.le_of_ble_eq_true rfl, Nat.le_of_ble_eq_true rfl⟩) hS (fun q _ h => MA.le hS.1 q h) (MA.le hS.1) (fun r1 x t H locs ht hvm hw hB _ _ hS => ?_)
  have hP := mB.at ht hB
  clear hB ht hvm
  obtain ⟨rfl, hw⟩ := hw
  have hP : va_P (dC, dI) vwCl (mw ar cy st sl) _ := hP
  clear hw
  refine lv_istore (lv' := [(6, .int r1), (0, .ref (ar 0)), (1, .int 1), (2, .int (nI va)), (3, .int vb), (4, .int vc), (5, .int vd)]) hx hb dX12_act_11 hl (by decide) rfl (fun ls hl => ?_)
  refine lv_iload hx hb dX12_act_13 (lv_at hl 0 rfl) ?_
  refine lv_if_eq (tgt := 21) hx hb dX12_act_15 (by decide) (fun c1 => ?_) (fun c1 => ?_)
  · refine lv_aload_n hx hb dX12_act_21 rfl (lv_at hl 1 rfl) ?_
    refine va_callv (va_runV (As := []) (rest := []) ⟨hx, hb, hml, hown, hts⟩ (m_snap l dC dI ar cy _ hN st sl  hG.1) (cwV 0 hts gX12_act_X12_snap rfl rfl rfl (by decide +kernel) ⟨Nat.le_of_ble_eq_true rfl, Nat.le_of_ble_eq_true rfl⟩) ⟨fun a U g mk q => ⟨q.1, mPre.blind q.2⟩, va_recv hK hP (ci := 11) (q0 := 0) rfl rfl, fun U hU hW => ⟨rfl, mPre.of hP hK hU hW⟩⟩ rfl rfl hl.1 rfl (lv_room (Nat.le_of_ble_eq_true rfl)) dX12_act_22 ⟨Nat.le_of_ble_eq_true rfl, Nat.le_of_ble_eq_true rfl⟩) hS (fun q _ h => MA.le hS.1 q h) (MA.le hS.1) (fun x t H locs ht hvm hw hB _ _ hS => ?_)
    have hP := mB.at ht hB
    clear hB ht hvm
    obtain ⟨st3, sl4⟩ := x
    obtain ⟨hG2, hL2, hw⟩ := hw
    have hL : LQ [7, 9] sl sl4 := hL.tr hL2 (by decide)
    clear hL2
    have hP : va_P (dC, dI) vwCl (mw ar cy st3 sl4) _ := hP
    have hG : MG [1, 2, 3, 4, 5, 6, 7, 8, 9, 10, 11, 12, 13, 14, 15, 16, 17, 19, 20, 21, 22, 23] st st3 := hG.tr hG2 (by decide)
    clear hG2
    clear hw
    refine lv_aload_n hx hb dX12_act_25 rfl (lv_at hl 1 rfl) ?_
    refine lv_iload_n hx hb dX12_act_26 rfl (lv_at hl 2 rfl) ?_
    refine lv_iload_n hx hb dX12_act_27 rfl (lv_at hl 3 rfl) ?_
    refine lv_iload_n hx hb dX12_act_28 rfl (lv_at hl 4 rfl) ?_
    refine lv_iload hx hb dX12_act_29 (lv_at hl 5 rfl) ?_
    refine lv_iload hx hb dX12_act_31 (lv_at hl 6 rfl) ?_
    refine va_callv (va_runV (As := [.int 1, .int (nI va), .int vb, .int vc, .int vd]) (rest := []) ⟨hx, hb, hml, hown, hts⟩ (m_live1 l dC dI ar cy _ hN st3 sl4 va vb vc vd (by omega) hG.1) (cwV 5 hts gX12_act_X12_live rfl rfl rfl (by decide +kernel) ⟨Nat.le_of_ble_eq_true rfl, Nat.le_of_ble_eq_true rfl⟩) ⟨fun a U g mk q => ⟨q.1, mPre.blind q.2⟩, va_recv hK hP (ci := 11) (q0 := 0) rfl rfl, fun U hU hW => ⟨rfl, mPre.of hP hK hU hW⟩⟩ rfl rfl hl.1 rfl (lv_room (Nat.le_of_ble_eq_true rfl)) dX12_act_33 ⟨Nat.le_of_ble_eq_true rfl, Nat.le_of_ble_eq_true rfl⟩) hS (fun q _ h => MA.le hS.1 q h) (MA.le hS.1) (fun x t H locs ht hvm hw hB _ _ hS => ?_)
    have hP := mB.at ht hB
    clear hB ht hvm
    obtain ⟨st6, sl7⟩ := x
    obtain ⟨hG2, hL2, hw⟩ := hw
    have hL : LQ [7, 9] sl sl7 := hL.tr hL2 (by decide)
    clear hL2
    have hP : va_P (dC, dI) vwCl (mw ar cy st6 sl7) _ := hP
    have hG : MG [1, 2, 3, 4, 5, 6, 7, 8, 9, 10, 11, 12, 13, 14, 15, 16, 17, 19, 20, 21, 22, 23] st st6 := hG.tr hG2 (by decide)
    clear hG2
    clear hw
    refine lv_iconst (v := 0) hx hb dX12_act_36 (by decide) ?_
    exact W.iret (v := 0) hx hb hr (fun t ht hW => ⟨⟨0, (st6, sl7), rfl, ⟨hG, hL, trivial⟩, mB.of ht hP⟩, hS.F ht⟩) hS.2.2 dX12_act_37
  · refine lv_iload hx hb dX12_act_18 (lv_at hl 0 rfl) ?_
    exact W.iret (v := r1) hx hb hr (fun t ht hW => ⟨⟨r1, (st, sl), rfl, ⟨hG, hL, trivial⟩, mB.of ht hP⟩, hS.F ht⟩) hS.2.2 dX12_act_20
set_option maxHeartbeats 4000000 in
set_option maxRecDepth 100000 in
theorem m_act2 (l : Launch) (dC : Nat → ClassId) (dI : Nat → Nat → Nat) (ar : Nat → Nat) (cy : Nat → ClassId) (sz : Nat) (hN : MN ar) (st : Nat → Nat → Int32) (sl : Nat → Nat → Int64) (va : Nat) (vb : Int32) (vc : Int32) (vd : Int32) (hva : va < 13) (hI : MI st) : Met l yX12_act wsX12_act ({ frames := 1, cells := 0, slots := 0, locals := 25 }) (va_Pc [.ref (ar 0), .int 2, .int (nI va), .int vb, .int vc, .int vd] (mPre dC dI ar cy sz st sl)) (va_Qi (fun (r : Int32) (x : MT) => MG [1, 2, 3, 4, 5, 6, 7, 8, 9, 10, 11, 12, 13, 14, 15, 16, 17, 19, 20, 21, 22, 23] st x.1 ∧ LQ [7, 9] sl x.2 ∧ (True)) (mB dC dI ar cy) (MA ar sz)) 0 0 (MA ar sz) := by
  refine Met.ofW (cc := cX12_act) (maxL := 7) (ret := (some .int)) (by decide) rfl ?_
  intro p e s m args below meth c s₁ B hml hv
  obtain ⟨rfl, hsz, hP, hK⟩ := hv
  have hx := B.exec
  have hb := B.bytes
  have hr := B.returns
  have hts := atoms_spec (ws := wsX12_act) B.pre
  have hown : s.vm.findClass RX12 = some m.cls := findClass_of_methodNamed B.named
  subst hsz
  have hS : va_S (MA ar s.heap.size) s.heap s.heap [] := va_S.rf
  have hG : MG [1, 2, 3, 4, 5, 6, 7, 8, 9, 10, 11, 12, 13, 14, 15, 16, 17, 19, 20, 21, 22, 23] st st := MG.rf hI
  have hl := lv_entry ([.ref (ar 0), .int 2, .int (nI va), .int vb, .int vc, .int vd]) (n := 7) (Nat.le_of_ble_eq_true rfl)
  rw [lg_entry_eq]
  generalize (lg_sl ([.ref (ar 0), .int 2, .int (nI va), .int vb, .int vc, .int vd]) ++ List.replicate (7 - (lg_sl ([.ref (ar 0), .int 2, .int (nI va), .int vb, .int vc, .int vd])).length) Slot.unset).toArray = ls at hl ⊢
  have hl : lv_has ls 7 [(0, .ref (ar 0)), (1, .int 2), (2, .int (nI va)), (3, .int vb), (4, .int vc), (5, .int vd)] := hl
  clear hI
  have hL : LQ [7, 9] sl sl := LQ.rf
  refine lv_aload_n hx hb dX12_act_0 rfl (lv_at hl 0 rfl) ?_
  refine lv_iload_n hx hb dX12_act_1 rfl (lv_at hl 1 rfl) ?_
  refine lv_iload_n hx hb dX12_act_2 rfl (lv_at hl 2 rfl) ?_
  refine lv_iload_n hx hb dX12_act_3 rfl (lv_at hl 3 rfl) ?_
  refine lv_iload hx hb dX12_act_4 (lv_at hl 4 rfl) ?_
  refine lv_iload hx hb dX12_act_6 (lv_at hl 5 rfl) ?_
  refine va_calli (va_runV (As := [.int 2, .int (nI va), .int vb, .int vc, .int vd]) (rest := []) ⟨hx, hb, hml, hown, hts⟩ (m_why2 l dC dI ar cy _ hN st sl (nI va) vb vc vd  hG.1) (cwV 5 hts gX12_act_X12_why rfl rfl rfl (by decide +kernel) ⟨Nat.le_of_ble_eq_true rfl, Nat.le_of_ble_eq_true rfl⟩) ⟨fun a U g mk q => ⟨q.1, mPre.blind q.2⟩, va_recv hK hP (ci := 11) (q0 := 0) rfl rfl, fun U hU hW => ⟨rfl, mPre.of hP hK hU hW⟩⟩ rfl rfl hl.1 rfl (lv_room (Nat.le_of_ble_eq_true rfl)) dX12_act_8 ⟨Nat.le_of_ble_eq_true rfl, Nat.le_of_ble_eq_true rfl⟩) hS (fun q _ h => MA.le hS.1 q h) (MA.le hS.1) (fun r1 x t H locs ht hvm hw hB _ _ hS => ?_)
  have hP := mB.at ht hB
  clear hB ht hvm
  obtain ⟨rfl, hw⟩ := hw
  have hP : va_P (dC, dI) vwCl (mw ar cy st sl) _ := hP
  clear hw
  refine lv_istore (lv' := [(6, .int r1), (0, .ref (ar 0)), (1, .int 2), (2, .int (nI va)), (3, .int vb), (4, .int vc), (5, .int vd)]) hx hb dX12_act_11 hl (by decide) rfl (fun ls hl => ?_)
  refine lv_iload hx hb dX12_act_13 (lv_at hl 0 rfl) ?_
  refine lv_if_eq (tgt := 21) hx hb dX12_act_15 (by decide) (fun c1 => ?_) (fun c1 => ?_)
  · refine lv_aload_n hx hb dX12_act_21 rfl (lv_at hl 1 rfl) ?_
    refine va_callv (va_runV (As := []) (rest := []) ⟨hx, hb, hml, hown, hts⟩ (m_snap l dC dI ar cy _ hN st sl  hG.1) (cwV 0 hts gX12_act_X12_snap rfl rfl rfl (by decide +kernel) ⟨Nat.le_of_ble_eq_true rfl, Nat.le_of_ble_eq_true rfl⟩) ⟨fun a U g mk q => ⟨q.1, mPre.blind q.2⟩, va_recv hK hP (ci := 11) (q0 := 0) rfl rfl, fun U hU hW => ⟨rfl, mPre.of hP hK hU hW⟩⟩ rfl rfl hl.1 rfl (lv_room (Nat.le_of_ble_eq_true rfl)) dX12_act_22 ⟨Nat.le_of_ble_eq_true rfl, Nat.le_of_ble_eq_true rfl⟩) hS (fun q _ h => MA.le hS.1 q h) (MA.le hS.1) (fun x t H locs ht hvm hw hB _ _ hS => ?_)
    have hP := mB.at ht hB
    clear hB ht hvm
    obtain ⟨st3, sl4⟩ := x
    obtain ⟨hG2, hL2, hw⟩ := hw
    have hL : LQ [7, 9] sl sl4 := hL.tr hL2 (by decide)
    clear hL2
    have hP : va_P (dC, dI) vwCl (mw ar cy st3 sl4) _ := hP
    have hG : MG [1, 2, 3, 4, 5, 6, 7, 8, 9, 10, 11, 12, 13, 14, 15, 16, 17, 19, 20, 21, 22, 23] st st3 := hG.tr hG2 (by decide)
    clear hG2
    clear hw
    refine lv_aload_n hx hb dX12_act_25 rfl (lv_at hl 1 rfl) ?_
    refine lv_iload_n hx hb dX12_act_26 rfl (lv_at hl 2 rfl) ?_
    refine lv_iload_n hx hb dX12_act_27 rfl (lv_at hl 3 rfl) ?_
    refine lv_iload_n hx hb dX12_act_28 rfl (lv_at hl 4 rfl) ?_
    refine lv_iload hx hb dX12_act_29 (lv_at hl 5 rfl) ?_
    refine lv_iload hx hb dX12_act_31 (lv_at hl 6 rfl) ?_
    refine va_callv (va_runV (As := [.int 2, .int (nI va), .int vb, .int vc, .int vd]) (rest := []) ⟨hx, hb, hml, hown, hts⟩ (m_live2 l dC dI ar cy _ hN st3 sl4 va vb vc vd (by omega) hG.1) (cwV 5 hts gX12_act_X12_live rfl rfl rfl (by decide +kernel) ⟨Nat.le_of_ble_eq_true rfl, Nat.le_of_ble_eq_true rfl⟩) ⟨fun a U g mk q => ⟨q.1, mPre.blind q.2⟩, va_recv hK hP (ci := 11) (q0 := 0) rfl rfl, fun U hU hW => ⟨rfl, mPre.of hP hK hU hW⟩⟩ rfl rfl hl.1 rfl (lv_room (Nat.le_of_ble_eq_true rfl)) dX12_act_33 ⟨Nat.le_of_ble_eq_true rfl, Nat.le_of_ble_eq_true rfl⟩) hS (fun q _ h => MA.le hS.1 q h) (MA.le hS.1) (fun x t H locs ht hvm hw hB _ _ hS => ?_)
    have hP := mB.at ht hB
    clear hB ht hvm
    obtain ⟨st6, sl7⟩ := x
    obtain ⟨hG2, hL2, hw⟩ := hw
    have hL : LQ [7, 9] sl sl7 := hL.tr hL2 (by decide)
    clear hL2
    have hP : va_P (dC, dI) vwCl (mw ar cy st6 sl7) _ := hP
    have hG : MG [1, 2, 3, 4, 5, 6, 7, 8, 9, 10, 11, 12, 13, 14, 15, 16, 17, 19, 20, 21, 22, 23] st st6 := hG.tr hG2 (by decide)
    clear hG2
    clear hw
    refine lv_iconst (v := 0) hx hb dX12_act_36 (by decide) ?_
    exact W.iret (v := 0) hx hb hr (fun t ht hW => ⟨⟨0, (st6, sl7), rfl, ⟨hG, hL, trivial⟩, mB.of ht hP⟩, hS.F ht⟩) hS.2.2 dX12_act_37
  · refine lv_iload hx hb dX12_act_18 (lv_at hl 0 rfl) ?_
    exact W.iret (v := r1) hx hb hr (fun t ht hW => ⟨⟨r1, (st, sl), rfl, ⟨hG, hL, trivial⟩, mB.of ht hP⟩, hS.F ht⟩) hS.2.2 dX12_act_20
set_option maxHeartbeats 4000000 in
set_option maxRecDepth 100000 in
theorem m_act3 (l : Launch) (dC : Nat → ClassId) (dI : Nat → Nat → Nat) (ar : Nat → Nat) (cy : Nat → ClassId) (sz : Nat) (hN : MN ar) (st : Nat → Nat → Int32) (sl : Nat → Nat → Int64) (va : Int32) (vb : Int32) (vc : Int32) (vd : Int32) (hI : MI st) : Met l yX12_act wsX12_act ({ frames := 2, cells := 0, slots := 0, locals := 46 }) (va_Pc [.ref (ar 0), .int 3, .int va, .int vb, .int vc, .int vd] (mPre dC dI ar cy sz st sl)) (va_Qi (fun (r : Int32) (x : MT) => MG [1, 2, 3, 4, 5, 6, 7, 8, 9, 10, 11, 12, 13, 14, 15, 16, 17, 19, 20, 21, 22, 23] st x.1 ∧ LQ [7, 9] sl x.2 ∧ (True)) (mB dC dI ar cy) (MA ar sz)) 0 0 (MA ar sz) := by
  refine Met.ofW (cc := cX12_act) (maxL := 7) (ret := (some .int)) (by decide) rfl ?_
  intro p e s m args below meth c s₁ B hml hv
  obtain ⟨rfl, hsz, hP, hK⟩ := hv
  have hx := B.exec
  have hb := B.bytes
  have hr := B.returns
  have hts := atoms_spec (ws := wsX12_act) B.pre
  have hown : s.vm.findClass RX12 = some m.cls := findClass_of_methodNamed B.named
  subst hsz
  have hS : va_S (MA ar s.heap.size) s.heap s.heap [] := va_S.rf
  have hG : MG [1, 2, 3, 4, 5, 6, 7, 8, 9, 10, 11, 12, 13, 14, 15, 16, 17, 19, 20, 21, 22, 23] st st := MG.rf hI
  have hl := lv_entry ([.ref (ar 0), .int 3, .int va, .int vb, .int vc, .int vd]) (n := 7) (Nat.le_of_ble_eq_true rfl)
  rw [lg_entry_eq]
  generalize (lg_sl ([.ref (ar 0), .int 3, .int va, .int vb, .int vc, .int vd]) ++ List.replicate (7 - (lg_sl ([.ref (ar 0), .int 3, .int va, .int vb, .int vc, .int vd])).length) Slot.unset).toArray = ls at hl ⊢
  have hl : lv_has ls 7 [(0, .ref (ar 0)), (1, .int 3), (2, .int va), (3, .int vb), (4, .int vc), (5, .int vd)] := hl
  clear hI
  have hL : LQ [7, 9] sl sl := LQ.rf
  refine lv_aload_n hx hb dX12_act_0 rfl (lv_at hl 0 rfl) ?_
  refine lv_iload_n hx hb dX12_act_1 rfl (lv_at hl 1 rfl) ?_
  refine lv_iload_n hx hb dX12_act_2 rfl (lv_at hl 2 rfl) ?_
  refine lv_iload_n hx hb dX12_act_3 rfl (lv_at hl 3 rfl) ?_
  refine lv_iload hx hb dX12_act_4 (lv_at hl 4 rfl) ?_
  refine lv_iload hx hb dX12_act_6 (lv_at hl 5 rfl) ?_
  refine va_calli (va_runV (As := [.int 3, .int va, .int vb, .int vc, .int vd]) (rest := []) ⟨hx, hb, hml, hown, hts⟩ (m_why3 l dC dI ar cy _ hN st sl va vb vc vd  hG.1) (cwV 5 hts gX12_act_X12_why rfl rfl rfl (by decide +kernel) ⟨Nat.le_of_ble_eq_true rfl, Nat.le_of_ble_eq_true rfl⟩) ⟨fun a U g mk q => ⟨q.1, mPre.blind q.2⟩, va_recv hK hP (ci := 11) (q0 := 0) rfl rfl, fun U hU hW => ⟨rfl, mPre.of hP hK hU hW⟩⟩ rfl rfl hl.1 rfl (lv_room (Nat.le_of_ble_eq_true rfl)) dX12_act_8 ⟨Nat.le_of_ble_eq_true rfl, Nat.le_of_ble_eq_true rfl⟩) hS (fun q _ h => MA.le hS.1 q h) (MA.le hS.1) (fun r1 x t H locs ht hvm hw hB _ _ hS => ?_)
  have hP := mB.at ht hB
  clear hB ht hvm
  obtain ⟨rfl, hw⟩ := hw
  have hP : va_P (dC, dI) vwCl (mw ar cy st sl) _ := hP
  clear hw
  refine lv_istore (lv' := [(6, .int r1), (0, .ref (ar 0)), (1, .int 3), (2, .int va), (3, .int vb), (4, .int vc), (5, .int vd)]) hx hb dX12_act_11 hl (by decide) rfl (fun ls hl => ?_)
  refine lv_iload hx hb dX12_act_13 (lv_at hl 0 rfl) ?_
  refine lv_if_eq (tgt := 21) hx hb dX12_act_15 (by decide) (fun c1 => ?_) (fun c1 => ?_)
  · refine lv_aload_n hx hb dX12_act_21 rfl (lv_at hl 1 rfl) ?_
    refine va_callv (va_runV (As := []) (rest := []) ⟨hx, hb, hml, hown, hts⟩ (m_snap l dC dI ar cy _ hN st sl  hG.1) (cwV 0 hts gX12_act_X12_snap rfl rfl rfl (by decide +kernel) ⟨Nat.le_of_ble_eq_true rfl, Nat.le_of_ble_eq_true rfl⟩) ⟨fun a U g mk q => ⟨q.1, mPre.blind q.2⟩, va_recv hK hP (ci := 11) (q0 := 0) rfl rfl, fun U hU hW => ⟨rfl, mPre.of hP hK hU hW⟩⟩ rfl rfl hl.1 rfl (lv_room (Nat.le_of_ble_eq_true rfl)) dX12_act_22 ⟨Nat.le_of_ble_eq_true rfl, Nat.le_of_ble_eq_true rfl⟩) hS (fun q _ h => MA.le hS.1 q h) (MA.le hS.1) (fun x t H locs ht hvm hw hB _ _ hS => ?_)
    have hP := mB.at ht hB
    clear hB ht hvm
    obtain ⟨st3, sl4⟩ := x
    obtain ⟨hG2, hL2, hw⟩ := hw
    have hL : LQ [7, 9] sl sl4 := hL.tr hL2 (by decide)
    clear hL2
    have hP : va_P (dC, dI) vwCl (mw ar cy st3 sl4) _ := hP
    have hG : MG [1, 2, 3, 4, 5, 6, 7, 8, 9, 10, 11, 12, 13, 14, 15, 16, 17, 19, 20, 21, 22, 23] st st3 := hG.tr hG2 (by decide)
    clear hG2
    clear hw
    refine lv_aload_n hx hb dX12_act_25 rfl (lv_at hl 1 rfl) ?_
    refine lv_iload_n hx hb dX12_act_26 rfl (lv_at hl 2 rfl) ?_
    refine lv_iload_n hx hb dX12_act_27 rfl (lv_at hl 3 rfl) ?_
    refine lv_iload_n hx hb dX12_act_28 rfl (lv_at hl 4 rfl) ?_
    refine lv_iload hx hb dX12_act_29 (lv_at hl 5 rfl) ?_
    refine lv_iload hx hb dX12_act_31 (lv_at hl 6 rfl) ?_
    refine va_callv (va_runV (As := [.int 3, .int va, .int vb, .int vc, .int vd]) (rest := []) ⟨hx, hb, hml, hown, hts⟩ (m_live3 l dC dI ar cy _ hN st3 sl4 va vb vc vd  hG.1) (cwV 5 hts gX12_act_X12_live rfl rfl rfl (by decide +kernel) ⟨Nat.le_of_ble_eq_true rfl, Nat.le_of_ble_eq_true rfl⟩) ⟨fun a U g mk q => ⟨q.1, mPre.blind q.2⟩, va_recv hK hP (ci := 11) (q0 := 0) rfl rfl, fun U hU hW => ⟨rfl, mPre.of hP hK hU hW⟩⟩ rfl rfl hl.1 rfl (lv_room (Nat.le_of_ble_eq_true rfl)) dX12_act_33 ⟨Nat.le_of_ble_eq_true rfl, Nat.le_of_ble_eq_true rfl⟩) hS (fun q _ h => MA.le hS.1 q h) (MA.le hS.1) (fun x t H locs ht hvm hw hB _ _ hS => ?_)
    have hP := mB.at ht hB
    clear hB ht hvm
    obtain ⟨st6, sl7⟩ := x
    obtain ⟨hG2, hL2, hw⟩ := hw
    have hL : LQ [7, 9] sl sl7 := hL.tr hL2 (by decide)
    clear hL2
    have hP : va_P (dC, dI) vwCl (mw ar cy st6 sl7) _ := hP
    have hG : MG [1, 2, 3, 4, 5, 6, 7, 8, 9, 10, 11, 12, 13, 14, 15, 16, 17, 19, 20, 21, 22, 23] st st6 := hG.tr hG2 (by decide)
    clear hG2
    clear hw
    refine lv_iconst (v := 0) hx hb dX12_act_36 (by decide) ?_
    exact W.iret (v := 0) hx hb hr (fun t ht hW => ⟨⟨0, (st6, sl7), rfl, ⟨hG, hL, trivial⟩, mB.of ht hP⟩, hS.F ht⟩) hS.2.2 dX12_act_37
  · refine lv_iload hx hb dX12_act_18 (lv_at hl 0 rfl) ?_
    exact W.iret (v := r1) hx hb hr (fun t ht hW => ⟨⟨r1, (st, sl), rfl, ⟨hG, hL, trivial⟩, mB.of ht hP⟩, hS.F ht⟩) hS.2.2 dX12_act_20
set_option maxHeartbeats 4000000 in
set_option maxRecDepth 100000 in
theorem m_act4 (l : Launch) (dC : Nat → ClassId) (dI : Nat → Nat → Nat) (ar : Nat → Nat) (cy : Nat → ClassId) (sz : Nat) (hN : MN ar) (st : Nat → Nat → Int32) (sl : Nat → Nat → Int64) (va : Nat) (vb : Nat) (vc : Int32) (vd : Int32) (hva : va < 8) (hvb : vb < 5) (hI : MI st) : Met l yX12_act wsX12_act ({ frames := 1, cells := 0, slots := 0, locals := 25 }) (va_Pc [.ref (ar 0), .int 4, .int (nI va), .int (nI vb), .int vc, .int vd] (mPre dC dI ar cy sz st sl)) (va_Qi (fun (r : Int32) (x : MT) => MG [1, 2, 3, 4, 5, 6, 7, 8, 9, 10, 11, 12, 13, 14, 15, 16, 17, 19, 20, 21, 22, 23] st x.1 ∧ LQ [7, 9] sl x.2 ∧ (True)) (mB dC dI ar cy) (MA ar sz)) 0 0 (MA ar sz) := by
  refine Met.ofW (cc := cX12_act) (maxL := 7) (ret := (some .int)) (by decide) rfl ?_
  intro p e s m args below meth c s₁ B hml hv
  obtain ⟨rfl, hsz, hP, hK⟩ := hv
  have hx := B.exec
  have hb := B.bytes
  have hr := B.returns
  have hts := atoms_spec (ws := wsX12_act) B.pre
  have hown : s.vm.findClass RX12 = some m.cls := findClass_of_methodNamed B.named
  subst hsz
  have hS : va_S (MA ar s.heap.size) s.heap s.heap [] := va_S.rf
  have hG : MG [1, 2, 3, 4, 5, 6, 7, 8, 9, 10, 11, 12, 13, 14, 15, 16, 17, 19, 20, 21, 22, 23] st st := MG.rf hI
  have hl := lv_entry ([.ref (ar 0), .int 4, .int (nI va), .int (nI vb), .int vc, .int vd]) (n := 7) (Nat.le_of_ble_eq_true rfl)
  rw [lg_entry_eq]
  generalize (lg_sl ([.ref (ar 0), .int 4, .int (nI va), .int (nI vb), .int vc, .int vd]) ++ List.replicate (7 - (lg_sl ([.ref (ar 0), .int 4, .int (nI va), .int (nI vb), .int vc, .int vd])).length) Slot.unset).toArray = ls at hl ⊢
  have hl : lv_has ls 7 [(0, .ref (ar 0)), (1, .int 4), (2, .int (nI va)), (3, .int (nI vb)), (4, .int vc), (5, .int vd)] := hl
  clear hI
  have hL : LQ [7, 9] sl sl := LQ.rf
  refine lv_aload_n hx hb dX12_act_0 rfl (lv_at hl 0 rfl) ?_
  refine lv_iload_n hx hb dX12_act_1 rfl (lv_at hl 1 rfl) ?_
  refine lv_iload_n hx hb dX12_act_2 rfl (lv_at hl 2 rfl) ?_
  refine lv_iload_n hx hb dX12_act_3 rfl (lv_at hl 3 rfl) ?_
  refine lv_iload hx hb dX12_act_4 (lv_at hl 4 rfl) ?_
  refine lv_iload hx hb dX12_act_6 (lv_at hl 5 rfl) ?_
  refine va_calli (va_runV (As := [.int 4, .int (nI va), .int (nI vb), .int vc, .int vd]) (rest := []) ⟨hx, hb, hml, hown, hts⟩ (m_why4 l dC dI ar cy _ hN st sl va (nI vb) vc vd (by omega) hG.1) (cwV 5 hts gX12_act_X12_why rfl rfl rfl (by decide +kernel) ⟨Nat.le_of_ble_eq_true rfl, Nat.le_of_ble_eq_true rfl⟩) ⟨fun a U g mk q => ⟨q.1, mPre.blind q.2⟩, va_recv hK hP (ci := 11) (q0 := 0) rfl rfl, fun U hU hW => ⟨rfl, mPre.of hP hK hU hW⟩⟩ rfl rfl hl.1 rfl (lv_room (Nat.le_of_ble_eq_true rfl)) dX12_act_8 ⟨Nat.le_of_ble_eq_true rfl, Nat.le_of_ble_eq_true rfl⟩) hS (fun q _ h => MA.le hS.1 q h) (MA.le hS.1) (fun r1 x t H locs ht hvm hw hB _ _ hS => ?_)
  have hP := mB.at ht hB
  clear hB ht hvm
  obtain ⟨rfl, hw⟩ := hw
  have hP : va_P (dC, dI) vwCl (mw ar cy st sl) _ := hP
  clear hw
  refine lv_istore (lv' := [(6, .int r1), (0, .ref (ar 0)), (1, .int 4), (2, .int (nI va)), (3, .int (nI vb)), (4, .int vc), (5, .int vd)]) hx hb dX12_act_11 hl (by decide) rfl (fun ls hl => ?_)
  refine lv_iload hx hb dX12_act_13 (lv_at hl 0 rfl) ?_
  refine lv_if_eq (tgt := 21) hx hb dX12_act_15 (by decide) (fun c1 => ?_) (fun c1 => ?_)
  · refine lv_aload_n hx hb dX12_act_21 rfl (lv_at hl 1 rfl) ?_
    refine va_callv (va_runV (As := []) (rest := []) ⟨hx, hb, hml, hown, hts⟩ (m_snap l dC dI ar cy _ hN st sl  hG.1) (cwV 0 hts gX12_act_X12_snap rfl rfl rfl (by decide +kernel) ⟨Nat.le_of_ble_eq_true rfl, Nat.le_of_ble_eq_true rfl⟩) ⟨fun a U g mk q => ⟨q.1, mPre.blind q.2⟩, va_recv hK hP (ci := 11) (q0 := 0) rfl rfl, fun U hU hW => ⟨rfl, mPre.of hP hK hU hW⟩⟩ rfl rfl hl.1 rfl (lv_room (Nat.le_of_ble_eq_true rfl)) dX12_act_22 ⟨Nat.le_of_ble_eq_true rfl, Nat.le_of_ble_eq_true rfl⟩) hS (fun q _ h => MA.le hS.1 q h) (MA.le hS.1) (fun x t H locs ht hvm hw hB _ _ hS => ?_)
    have hP := mB.at ht hB
    clear hB ht hvm
    obtain ⟨st3, sl4⟩ := x
    obtain ⟨hG2, hL2, hw⟩ := hw
    have hL : LQ [7, 9] sl sl4 := hL.tr hL2 (by decide)
    clear hL2
    have hP : va_P (dC, dI) vwCl (mw ar cy st3 sl4) _ := hP
    have hG : MG [1, 2, 3, 4, 5, 6, 7, 8, 9, 10, 11, 12, 13, 14, 15, 16, 17, 19, 20, 21, 22, 23] st st3 := hG.tr hG2 (by decide)
    clear hG2
    clear hw
    refine lv_aload_n hx hb dX12_act_25 rfl (lv_at hl 1 rfl) ?_
    refine lv_iload_n hx hb dX12_act_26 rfl (lv_at hl 2 rfl) ?_
    refine lv_iload_n hx hb dX12_act_27 rfl (lv_at hl 3 rfl) ?_
    refine lv_iload_n hx hb dX12_act_28 rfl (lv_at hl 4 rfl) ?_
    refine lv_iload hx hb dX12_act_29 (lv_at hl 5 rfl) ?_
    refine lv_iload hx hb dX12_act_31 (lv_at hl 6 rfl) ?_
    refine va_callv (va_runV (As := [.int 4, .int (nI va), .int (nI vb), .int vc, .int vd]) (rest := []) ⟨hx, hb, hml, hown, hts⟩ (m_live4 l dC dI ar cy _ hN st3 sl4 va vb vc vd (by omega) (by omega) hG.1) (cwV 5 hts gX12_act_X12_live rfl rfl rfl (by decide +kernel) ⟨Nat.le_of_ble_eq_true rfl, Nat.le_of_ble_eq_true rfl⟩) ⟨fun a U g mk q => ⟨q.1, mPre.blind q.2⟩, va_recv hK hP (ci := 11) (q0 := 0) rfl rfl, fun U hU hW => ⟨rfl, mPre.of hP hK hU hW⟩⟩ rfl rfl hl.1 rfl (lv_room (Nat.le_of_ble_eq_true rfl)) dX12_act_33 ⟨Nat.le_of_ble_eq_true rfl, Nat.le_of_ble_eq_true rfl⟩) hS (fun q _ h => MA.le hS.1 q h) (MA.le hS.1) (fun x t H locs ht hvm hw hB _ _ hS => ?_)
    have hP := mB.at ht hB
    clear hB ht hvm
    obtain ⟨st6, sl7⟩ := x
    obtain ⟨hG2, hL2, hw⟩ := hw
    have hL : LQ [7, 9] sl sl7 := hL.tr hL2 (by decide)
    clear hL2
    have hP : va_P (dC, dI) vwCl (mw ar cy st6 sl7) _ := hP
    have hG : MG [1, 2, 3, 4, 5, 6, 7, 8, 9, 10, 11, 12, 13, 14, 15, 16, 17, 19, 20, 21, 22, 23] st st6 := hG.tr hG2 (by decide)
    clear hG2
    clear hw
    refine lv_iconst (v := 0) hx hb dX12_act_36 (by decide) ?_
    exact W.iret (v := 0) hx hb hr (fun t ht hW => ⟨⟨0, (st6, sl7), rfl, ⟨hG, hL, trivial⟩, mB.of ht hP⟩, hS.F ht⟩) hS.2.2 dX12_act_37
  · refine lv_iload hx hb dX12_act_18 (lv_at hl 0 rfl) ?_
    exact W.iret (v := r1) hx hb hr (fun t ht hW => ⟨⟨r1, (st, sl), rfl, ⟨hG, hL, trivial⟩, mB.of ht hP⟩, hS.F ht⟩) hS.2.2 dX12_act_20
set_option maxHeartbeats 4000000 in
set_option maxRecDepth 100000 in
theorem m_act5 (l : Launch) (dC : Nat → ClassId) (dI : Nat → Nat → Nat) (ar : Nat → Nat) (cy : Nat → ClassId) (sz : Nat) (hN : MN ar) (st : Nat → Nat → Int32) (sl : Nat → Nat → Int64) (va : Int32) (vb : Int32) (vc : Int32) (vd : Int32) (hI : MI st) : Met l yX12_act wsX12_act ({ frames := 1, cells := 0, slots := 0, locals := 25 }) (va_Pc [.ref (ar 0), .int 5, .int va, .int vb, .int vc, .int vd] (mPre dC dI ar cy sz st sl)) (va_Qi (fun (r : Int32) (x : MT) => MG [1, 2, 3, 4, 5, 6, 7, 8, 9, 10, 11, 12, 13, 14, 15, 16, 17, 19, 20, 21, 22, 23] st x.1 ∧ LQ [7, 9] sl x.2 ∧ (True)) (mB dC dI ar cy) (MA ar sz)) 0 0 (MA ar sz) := by
  refine Met.ofW (cc := cX12_act) (maxL := 7) (ret := (some .int)) (by decide) rfl ?_
  intro p e s m args below meth c s₁ B hml hv
  obtain ⟨rfl, hsz, hP, hK⟩ := hv
  have hx := B.exec
  have hb := B.bytes
  have hr := B.returns
  have hts := atoms_spec (ws := wsX12_act) B.pre
  have hown : s.vm.findClass RX12 = some m.cls := findClass_of_methodNamed B.named
  subst hsz
  have hS : va_S (MA ar s.heap.size) s.heap s.heap [] := va_S.rf
  have hG : MG [1, 2, 3, 4, 5, 6, 7, 8, 9, 10, 11, 12, 13, 14, 15, 16, 17, 19, 20, 21, 22, 23] st st := MG.rf hI
  have hl := lv_entry ([.ref (ar 0), .int 5, .int va, .int vb, .int vc, .int vd]) (n := 7) (Nat.le_of_ble_eq_true rfl)
  rw [lg_entry_eq]
  generalize (lg_sl ([.ref (ar 0), .int 5, .int va, .int vb, .int vc, .int vd]) ++ List.replicate (7 - (lg_sl ([.ref (ar 0), .int 5, .int va, .int vb, .int vc, .int vd])).length) Slot.unset).toArray = ls at hl ⊢
  have hl : lv_has ls 7 [(0, .ref (ar 0)), (1, .int 5), (2, .int va), (3, .int vb), (4, .int vc), (5, .int vd)] := hl
  clear hI
  have hL : LQ [7, 9] sl sl := LQ.rf
  refine lv_aload_n hx hb dX12_act_0 rfl (lv_at hl 0 rfl) ?_
  refine lv_iload_n hx hb dX12_act_1 rfl (lv_at hl 1 rfl) ?_
  refine lv_iload_n hx hb dX12_act_2 rfl (lv_at hl 2 rfl) ?_
  refine lv_iload_n hx hb dX12_act_3 rfl (lv_at hl 3 rfl) ?_
  refine lv_iload hx hb dX12_act_4 (lv_at hl 4 rfl) ?_
  refine lv_iload hx hb dX12_act_6 (lv_at hl 5 rfl) ?_
  refine va_calli (va_runV (As := [.int 5, .int va, .int vb, .int vc, .int vd]) (rest := []) ⟨hx, hb, hml, hown, hts⟩ (m_why5 l dC dI ar cy _ hN st sl va vb vc vd  hG.1) (cwV 5 hts gX12_act_X12_why rfl rfl rfl (by decide +kernel) ⟨Nat.le_of_ble_eq_true rfl, Nat.le_of_ble_eq_true rfl⟩) ⟨fun a U g mk q => ⟨q.1, mPre.blind q.2⟩, va_recv hK hP (ci := 11) (q0 := 0) rfl rfl, fun U hU hW => ⟨rfl, mPre.of hP hK hU hW⟩⟩ rfl rfl hl.1 rfl (lv_room (Nat.le_of_ble_eq_true rfl)) dX12_act_8 ⟨Nat.le_of_ble_eq_true rfl, Nat.le_of_ble_eq_true rfl⟩) hS (fun q _ h => MA.le hS.1 q h) (MA.le hS.1) (fun r1 x t H locs ht hvm hw hB _ _ hS => ?_)
  have hP := mB.at ht hB
  clear hB ht hvm
  obtain ⟨rfl, hw⟩ := hw
  have hP : va_P (dC, dI) vwCl (mw ar cy st sl) _ := hP
  clear hw
  refine lv_istore (lv' := [(6, .int r1), (0, .ref (ar 0)), (1, .int 5), (2, .int va), (3, .int vb), (4, .int vc), (5, .int vd)]) hx hb dX12_act_11 hl (by decide) rfl (fun ls hl => ?_)
  refine lv_iload hx hb dX12_act_13 (lv_at hl 0 rfl) ?_
  refine lv_if_eq (tgt := 21) hx hb dX12_act_15 (by decide) (fun c1 => ?_) (fun c1 => ?_)
  · refine lv_aload_n hx hb dX12_act_21 rfl (lv_at hl 1 rfl) ?_
    refine va_callv (va_runV (As := []) (rest := []) ⟨hx, hb, hml, hown, hts⟩ (m_snap l dC dI ar cy _ hN st sl  hG.1) (cwV 0 hts gX12_act_X12_snap rfl rfl rfl (by decide +kernel) ⟨Nat.le_of_ble_eq_true rfl, Nat.le_of_ble_eq_true rfl⟩) ⟨fun a U g mk q => ⟨q.1, mPre.blind q.2⟩, va_recv hK hP (ci := 11) (q0 := 0) rfl rfl, fun U hU hW => ⟨rfl, mPre.of hP hK hU hW⟩⟩ rfl rfl hl.1 rfl (lv_room (Nat.le_of_ble_eq_true rfl)) dX12_act_22 ⟨Nat.le_of_ble_eq_true rfl, Nat.le_of_ble_eq_true rfl⟩) hS (fun q _ h => MA.le hS.1 q h) (MA.le hS.1) (fun x t H locs ht hvm hw hB _ _ hS => ?_)
    have hP := mB.at ht hB
    clear hB ht hvm
    obtain ⟨st3, sl4⟩ := x
    obtain ⟨hG2, hL2, hw⟩ := hw
    have hL : LQ [7, 9] sl sl4 := hL.tr hL2 (by decide)
    clear hL2
    have hP : va_P (dC, dI) vwCl (mw ar cy st3 sl4) _ := hP
    have hG : MG [1, 2, 3, 4, 5, 6, 7, 8, 9, 10, 11, 12, 13, 14, 15, 16, 17, 19, 20, 21, 22, 23] st st3 := hG.tr hG2 (by decide)
    clear hG2
    clear hw
    refine lv_aload_n hx hb dX12_act_25 rfl (lv_at hl 1 rfl) ?_
    refine lv_iload_n hx hb dX12_act_26 rfl (lv_at hl 2 rfl) ?_
    refine lv_iload_n hx hb dX12_act_27 rfl (lv_at hl 3 rfl) ?_
    refine lv_iload_n hx hb dX12_act_28 rfl (lv_at hl 4 rfl) ?_
    refine lv_iload hx hb dX12_act_29 (lv_at hl 5 rfl) ?_
    refine lv_iload hx hb dX12_act_31 (lv_at hl 6 rfl) ?_
    refine va_callv (va_runV (As := [.int 5, .int va, .int vb, .int vc, .int vd]) (rest := []) ⟨hx, hb, hml, hown, hts⟩ (m_live5 l dC dI ar cy _ hN st3 sl4 va vb vc vd  hG.1) (cwV 5 hts gX12_act_X12_live rfl rfl rfl (by decide +kernel) ⟨Nat.le_of_ble_eq_true rfl, Nat.le_of_ble_eq_true rfl⟩) ⟨fun a U g mk q => ⟨q.1, mPre.blind q.2⟩, va_recv hK hP (ci := 11) (q0 := 0) rfl rfl, fun U hU hW => ⟨rfl, mPre.of hP hK hU hW⟩⟩ rfl rfl hl.1 rfl (lv_room (Nat.le_of_ble_eq_true rfl)) dX12_act_33 ⟨Nat.le_of_ble_eq_true rfl, Nat.le_of_ble_eq_true rfl⟩) hS (fun q _ h => MA.le hS.1 q h) (MA.le hS.1) (fun x t H locs ht hvm hw hB _ _ hS => ?_)
    have hP := mB.at ht hB
    clear hB ht hvm
    obtain ⟨st6, sl7⟩ := x
    obtain ⟨hG2, hL2, hw⟩ := hw
    have hL : LQ [7, 9] sl sl7 := hL.tr hL2 (by decide)
    clear hL2
    have hP : va_P (dC, dI) vwCl (mw ar cy st6 sl7) _ := hP
    have hG : MG [1, 2, 3, 4, 5, 6, 7, 8, 9, 10, 11, 12, 13, 14, 15, 16, 17, 19, 20, 21, 22, 23] st st6 := hG.tr hG2 (by decide)
    clear hG2
    clear hw
    refine lv_iconst (v := 0) hx hb dX12_act_36 (by decide) ?_
    exact W.iret (v := 0) hx hb hr (fun t ht hW => ⟨⟨0, (st6, sl7), rfl, ⟨hG, hL, trivial⟩, mB.of ht hP⟩, hS.F ht⟩) hS.2.2 dX12_act_37
  · refine lv_iload hx hb dX12_act_18 (lv_at hl 0 rfl) ?_
    exact W.iret (v := r1) hx hb hr (fun t ht hW => ⟨⟨r1, (st, sl), rfl, ⟨hG, hL, trivial⟩, mB.of ht hP⟩, hS.F ht⟩) hS.2.2 dX12_act_20
set_option maxHeartbeats 4000000 in
set_option maxRecDepth 100000 in
theorem m_allow (l : Launch) (dC : Nat → ClassId) (dI : Nat → Nat → Nat) (ar : Nat → Nat) (cy : Nat → ClassId) (sz : Nat) (hN : MN ar) (st : Nat → Nat → Int32) (sl : Nat → Nat → Int64) (va : Int32) (vb : Int32) (vc : Int32) (hI : MI st) : Met l yX12_allow wsX12_allow ({ frames := 3, cells := 0, slots := 0, locals := 72 }) (va_Pc [.ref (ar 0), .int va, .int vb, .int vc] (mPre dC dI ar cy sz st sl)) (va_Qi (fun (r : Int32) (x : MT) => MG [1, 2, 3, 4, 5, 6, 7, 8, 9, 10, 11, 12, 13, 14, 15, 16, 17, 19, 20, 21, 22, 23] st x.1 ∧ LQ [7, 9] sl x.2 ∧ (True)) (mB dC dI ar cy) (MA ar sz)) 0 0 (MA ar sz) := by
  refine Met.ofW (cc := cX12_allow) (maxL := 4) (ret := (some .int)) (by decide) rfl ?_
  intro p e s m args below meth c s₁ B hml hv
  obtain ⟨rfl, hsz, hP, hK⟩ := hv
  have hx := B.exec
  have hb := B.bytes
  have hr := B.returns
  have hts := atoms_spec (ws := wsX12_allow) B.pre
  have hown : s.vm.findClass RX12 = some m.cls := findClass_of_methodNamed B.named
  subst hsz
  have hS : va_S (MA ar s.heap.size) s.heap s.heap [] := va_S.rf
  have hG : MG [1, 2, 3, 4, 5, 6, 7, 8, 9, 10, 11, 12, 13, 14, 15, 16, 17, 19, 20, 21, 22, 23] st st := MG.rf hI
  have hl := lv_entry ([.ref (ar 0), .int va, .int vb, .int vc]) (n := 4) (Nat.le_of_ble_eq_true rfl)
  rw [lg_entry_eq]
  generalize (lg_sl ([.ref (ar 0), .int va, .int vb, .int vc]) ++ List.replicate (4 - (lg_sl ([.ref (ar 0), .int va, .int vb, .int vc])).length) Slot.unset).toArray = ls at hl ⊢
  have hl : lv_has ls 4 [(0, .ref (ar 0)), (1, .int va), (2, .int vb), (3, .int vc)] := hl
  clear hI
  have hL : LQ [7, 9] sl sl := LQ.rf
  refine lv_aload_n hx hb dX12_allow_0 rfl (lv_at hl 0 rfl) ?_
  refine lv_iconst (v := 0) hx hb dX12_allow_1 (by decide) ?_
  refine va_put (D := (dC, dI)) (ci := 11) (v := .int 0) (ty := .int) (C := RX12) (T := TX12) (N := 47) hx hb hts ii_X12_allow tyX12 tyX12_ok nmX12 hown hK hP (mD hN _ _ _ _) hS 0 rfl rfl 0 (by decide) (hts _ mm_X12_allow_1) (fun _ hh => hh) rfl (by decide +kernel) rfl rfl (Nat.le_of_ble_eq_true rfl) dX12_allow_2 (fun H locs hP _ hS => ?_)
  have hP : va_P (dC, dI) vwCl (mw ar cy (up2 st 0 0 0) sl) H := hP
  obtain ⟨st1, hP, hG⟩ : ∃ y, va_P (dC, dI) vwCl (mw ar cy y sl) H ∧ MG [1, 2, 3, 4, 5, 6, 7, 8, 9, 10, 11, 12, 13, 14, 15, 16, 17, 19, 20, 21, 22, 23] st y := ⟨up2 st 0 0 0, hP, hG.up (rz (by decide : mr 0 0 = 0)) (pn (by decide : pcl 0 0 = 0) (by decide))⟩
  refine lv_aload_n hx hb dX12_allow_5 rfl (lv_at hl 0 rfl) ?_
  refine lv_iload_n hx hb dX12_allow_6 rfl (lv_at hl 1 rfl) ?_
  refine va_calli (va_runV (As := [.int va]) (rest := []) ⟨hx, hb, hml, hown, hts⟩ (m_isPlace l dC dI ar cy _ hN st1 sl va  hG.1) (cwV 1 hts gX12_allow_X12_isPlace rfl rfl rfl (by decide +kernel) ⟨Nat.le_of_ble_eq_true rfl, Nat.le_of_ble_eq_true rfl⟩) ⟨fun a U g mk q => ⟨q.1, mPre.blind q.2⟩, va_recv hK hP (ci := 11) (q0 := 0) rfl rfl, fun U hU hW => ⟨rfl, mPre.of hP hK hU hW⟩⟩ rfl rfl hl.1 rfl (lv_room (Nat.le_of_ble_eq_true rfl)) dX12_allow_7 ⟨Nat.le_of_ble_eq_true rfl, Nat.le_of_ble_eq_true rfl⟩) hS (fun q _ h => MA.le hS.1 q h) (MA.le hS.1) (fun r2 x t H locs ht hvm hw hB _ _ hS => ?_)
  have hP := mB.at ht hB
  clear hB ht hvm
  obtain ⟨rfl, hw⟩ := hw
  have hP : va_P (dC, dI) vwCl (mw ar cy st1 sl) _ := hP
  rcases hw with ⟨n3, rfl, hf4, rfl⟩ | rfl
  · refine lv_if_eq (tgt := 33) hx hb dX12_allow_10 (by decide) (fun cc => absurd cc (by decide)) (fun _ => ?_)
    refine lv_iload_n hx hb dX12_allow_13 rfl (lv_at hl 2 rfl) ?_
    refine lv_iload_n hx hb dX12_allow_14 rfl (lv_at hl 3 rfl) ?_
    refine va_calli (va_runS (As := [.int vb, .int vc]) (rest := []) ⟨hx, hb, hml, hown, hts⟩ (m_areHours l dC dI ar cy _ hN st1 sl vb vc  hG.1) (va_cwS 2 hts gX12_allow_X12_areHours rfl rfl rfl (by decide +kernel) ⟨Nat.le_of_ble_eq_true rfl, Nat.le_of_ble_eq_true rfl⟩) ⟨fun a U g mk q => ⟨q.1, mPre.blind q.2⟩, fun U hU hW => ⟨rfl, mPre.of hP hK hU hW⟩⟩ rfl rfl hl.1 rfl (lv_room (Nat.le_of_ble_eq_true rfl)) dX12_allow_15 ⟨Nat.le_of_ble_eq_true rfl, Nat.le_of_ble_eq_true rfl⟩) hS (fun q _ h => MA.le hS.1 q h) (MA.le hS.1) (fun r5 x t H locs ht hvm hw hB _ _ hS => ?_)
    have hP := mB.at ht hB
    clear hB ht hvm
    obtain ⟨rfl, hw⟩ := hw
    have hP : va_P (dC, dI) vwCl (mw ar cy st1 sl) _ := hP
    rcases hw with ⟨n6, n7, rfl, hf8, hf9, rfl, rfl⟩ | rfl
    · refine lv_if_eq (tgt := 33) hx hb dX12_allow_18 (by decide) (fun cc => absurd cc (by decide)) (fun _ => ?_)
      refine lv_aload_n hx hb dX12_allow_21 rfl (lv_at hl 0 rfl) ?_
      refine lv_iconst (v := 0) hx hb dX12_allow_22 (by decide) ?_
      refine lv_iload_n hx hb dX12_allow_23 rfl (lv_at hl 1 rfl) ?_
      refine lv_iconst (v := 0) hx hb dX12_allow_24 (by decide) ?_
      refine lv_iload_n hx hb dX12_allow_25 rfl (lv_at hl 2 rfl) ?_
      refine lv_iload_n hx hb dX12_allow_26 rfl (lv_at hl 3 rfl) ?_
      refine va_calli (va_runV (As := [.int 0, .int (nI n3), .int 0, .int (nI n6), .int (nI n7)]) (rest := []) ⟨hx, hb, hml, hown, hts⟩ (m_act0 l dC dI ar cy _ hN st1 sl n3 0 n6 n7 (by omega) (by omega) (by omega) hG.1 (by omega)) (cwV 5 hts gX12_allow_X12_act rfl rfl rfl (by decide +kernel) ⟨Nat.le_of_ble_eq_true rfl, Nat.le_of_ble_eq_true rfl⟩) ⟨fun a U g mk q => ⟨q.1, mPre.blind q.2⟩, va_recv hK hP (ci := 11) (q0 := 0) rfl rfl, fun U hU hW => ⟨rfl, mPre.of hP hK hU hW⟩⟩ rfl rfl hl.1 rfl (lv_room (Nat.le_of_ble_eq_true rfl)) dX12_allow_27 ⟨Nat.le_of_ble_eq_true rfl, Nat.le_of_ble_eq_true rfl⟩) hS (fun q _ h => MA.le hS.1 q h) (MA.le hS.1) (fun r10 x t H locs ht hvm hw hB _ _ hS => ?_)
      have hP := mB.at ht hB
      clear hB ht hvm
      obtain ⟨st11, sl12⟩ := x
      obtain ⟨hG2, hL2, hw⟩ := hw
      have hL : LQ [7, 9] sl sl12 := hL.tr hL2 (by decide)
      clear hL2
      have hP : va_P (dC, dI) vwCl (mw ar cy st11 sl12) _ := hP
      have hG : MG [1, 2, 3, 4, 5, 6, 7, 8, 9, 10, 11, 12, 13, 14, 15, 16, 17, 19, 20, 21, 22, 23] st st11 := hG.tr hG2 (by decide)
      clear hG2
      clear hw
      refine lv_goto (tgt := 34) hx hb dX12_allow_30 (by decide) ?_
      exact W.iret (v := r10) hx hb hr (fun t ht hW => ⟨⟨r10, (st11, sl12), rfl, ⟨hG, hL, trivial⟩, mB.of ht hP⟩, hS.F ht⟩) hS.2.2 dX12_allow_34
    · refine lv_if_eq (tgt := 33) hx hb dX12_allow_18 (by decide) (fun _ => ?_) (fun cc => absurd (by decide) cc)
      refine lv_iconst (v := (-1)) hx hb dX12_allow_33 (by decide) ?_
      exact W.iret (v := (-1)) hx hb hr (fun t ht hW => ⟨⟨(-1), (st1, sl), rfl, ⟨hG, hL, trivial⟩, mB.of ht hP⟩, hS.F ht⟩) hS.2.2 dX12_allow_34
  · refine lv_if_eq (tgt := 33) hx hb dX12_allow_10 (by decide) (fun _ => ?_) (fun cc => absurd (by decide) cc)
    refine lv_iconst (v := (-1)) hx hb dX12_allow_33 (by decide) ?_
    exact W.iret (v := (-1)) hx hb hr (fun t ht hW => ⟨⟨(-1), (st1, sl), rfl, ⟨hG, hL, trivial⟩, mB.of ht hP⟩, hS.F ht⟩) hS.2.2 dX12_allow_34
